section
-- ===== PART A: goes FIRST, ahead of the names: the tables' words, and 'selects' of the private methods out of them =====
/-- a private method of a class that the tables say can be made, by its rows of tables_1 -/
def lw_okq (q : MethodName × Nat) : Prop := (q.1.cls ≠ "java/lang/invoke/MethodHandle" ∧ q.1.cls ≠ "java/lang/invoke/VarHandle") ∧ Cond.instantiable q.1.cls q.2 ∈ tables_1 ∧ Cond.privateMethod q.1 ∈ tables_1 ∧ Cond.instanceMethod q.1 ∈ tables_1
theorem lw_p0 : lw_okq (⟨"TrainingBook$Tape", "append", "(I)V"⟩, 6) := ⟨⟨by decide +kernel, by decide +kernel⟩, List.mem_of_getElem? (i := 86) (by decide +kernel), List.mem_of_getElem? (i := 231) (by decide +kernel), List.mem_of_getElem? (i := 232) (by decide +kernel)⟩
theorem lw_p1 : lw_okq (⟨"TrainingBook$Tape", "split", "()V"⟩, 6) := ⟨⟨by decide +kernel, by decide +kernel⟩, List.mem_of_getElem? (i := 86) (by decide +kernel), List.mem_of_getElem? (i := 243) (by decide +kernel), List.mem_of_getElem? (i := 244) (by decide +kernel)⟩
theorem lw_p2 : lw_okq (⟨"TrainingBook$Tape", "endOfWord", "(I)I"⟩, 6) := ⟨⟨by decide +kernel, by decide +kernel⟩, List.mem_of_getElem? (i := 86) (by decide +kernel), List.mem_of_getElem? (i := 250) (by decide +kernel), List.mem_of_getElem? (i := 251) (by decide +kernel)⟩
theorem lw_p3 : lw_okq (⟨"TrainingBook$Tape", "wordAt", "(II)I"⟩, 6) := ⟨⟨by decide +kernel, by decide +kernel⟩, List.mem_of_getElem? (i := 86) (by decide +kernel), List.mem_of_getElem? (i := 254) (by decide +kernel), List.mem_of_getElem? (i := 255) (by decide +kernel)⟩
theorem lw_p4 : lw_okq (⟨"TrainingBook$Tape", "isTextAt", "(Ljava/lang/String;II)Z"⟩, 6) := ⟨⟨by decide +kernel, by decide +kernel⟩, List.mem_of_getElem? (i := 86) (by decide +kernel), List.mem_of_getElem? (i := 273) (by decide +kernel), List.mem_of_getElem? (i := 274) (by decide +kernel)⟩
theorem lw_p5 : lw_okq (⟨"TrainingBook$Tape", "note", "(III)V"⟩, 6) := ⟨⟨by decide +kernel, by decide +kernel⟩, List.mem_of_getElem? (i := 86) (by decide +kernel), List.mem_of_getElem? (i := 325) (by decide +kernel), List.mem_of_getElem? (i := 326) (by decide +kernel)⟩
theorem lw_p6 : lw_okq (⟨"TrainingBook$Tape", "endOfInt", "(I)I"⟩, 6) := ⟨⟨by decide +kernel, by decide +kernel⟩, List.mem_of_getElem? (i := 86) (by decide +kernel), List.mem_of_getElem? (i := 332) (by decide +kernel), List.mem_of_getElem? (i := 333) (by decide +kernel)⟩
theorem lw_p7 : lw_okq (⟨"TrainingBook$Tape", "numberAt", "(II)I"⟩, 6) := ⟨⟨by decide +kernel, by decide +kernel⟩, List.mem_of_getElem? (i := 86) (by decide +kernel), List.mem_of_getElem? (i := 336) (by decide +kernel), List.mem_of_getElem? (i := 337) (by decide +kernel)⟩
theorem lw_p8 : lw_okq (⟨"TrainingBook$Teller", "readText", "(LTrainingBook$Told;)I"⟩, 9) := ⟨⟨by decide +kernel, by decide +kernel⟩, List.mem_of_getElem? (i := 80) (by decide +kernel), List.mem_of_getElem? (i := 346) (by decide +kernel), List.mem_of_getElem? (i := 347) (by decide +kernel)⟩
theorem lw_p9 : lw_okq (⟨"TrainingBook$Told", "copyFrom", "(LTrainingBook$Told;)V"⟩, 9) := ⟨⟨by decide +kernel, by decide +kernel⟩, List.mem_of_getElem? (i := 26) (by decide +kernel), List.mem_of_getElem? (i := 350) (by decide +kernel), List.mem_of_getElem? (i := 351) (by decide +kernel)⟩
theorem lw_p10 : lw_okq (⟨"TrainingBook$Teller", "token", "()I"⟩, 9) := ⟨⟨by decide +kernel, by decide +kernel⟩, List.mem_of_getElem? (i := 80) (by decide +kernel), List.mem_of_getElem? (i := 357) (by decide +kernel), List.mem_of_getElem? (i := 358) (by decide +kernel)⟩
theorem lw_p11 : lw_okq (⟨"TrainingBook$Teller", "readStatement", "()Z"⟩, 9) := ⟨⟨by decide +kernel, by decide +kernel⟩, List.mem_of_getElem? (i := 80) (by decide +kernel), List.mem_of_getElem? (i := 361) (by decide +kernel), List.mem_of_getElem? (i := 362) (by decide +kernel)⟩
theorem lw_p12 : lw_okq (⟨"TrainingBook$Teller", "readGroup", "()Z"⟩, 9) := ⟨⟨by decide +kernel, by decide +kernel⟩, List.mem_of_getElem? (i := 80) (by decide +kernel), List.mem_of_getElem? (i := 365) (by decide +kernel), List.mem_of_getElem? (i := 366) (by decide +kernel)⟩
theorem lw_p13 : lw_okq (⟨"TrainingBook$Teller", "fail", "(I)Z"⟩, 9) := ⟨⟨by decide +kernel, by decide +kernel⟩, List.mem_of_getElem? (i := 80) (by decide +kernel), List.mem_of_getElem? (i := 369) (by decide +kernel), List.mem_of_getElem? (i := 370) (by decide +kernel)⟩
theorem lw_p14 : lw_okq (⟨"TrainingBook$Teller", "step", "()V"⟩, 9) := ⟨⟨by decide +kernel, by decide +kernel⟩, List.mem_of_getElem? (i := 80) (by decide +kernel), List.mem_of_getElem? (i := 373) (by decide +kernel), List.mem_of_getElem? (i := 374) (by decide +kernel)⟩
theorem lw_p15 : lw_okq (⟨"TrainingBook$Teller", "takeInt", "(II)I"⟩, 9) := ⟨⟨by decide +kernel, by decide +kernel⟩, List.mem_of_getElem? (i := 80) (by decide +kernel), List.mem_of_getElem? (i := 377) (by decide +kernel), List.mem_of_getElem? (i := 378) (by decide +kernel)⟩
def lw_privs_1 : List (MethodName × Nat) := [(⟨"TrainingBook$Tape", "append", "(I)V"⟩, 6), (⟨"TrainingBook$Tape", "split", "()V"⟩, 6), (⟨"TrainingBook$Tape", "endOfWord", "(I)I"⟩, 6), (⟨"TrainingBook$Tape", "wordAt", "(II)I"⟩, 6), (⟨"TrainingBook$Tape", "isTextAt", "(Ljava/lang/String;II)Z"⟩, 6), (⟨"TrainingBook$Tape", "note", "(III)V"⟩, 6), (⟨"TrainingBook$Tape", "endOfInt", "(I)I"⟩, 6), (⟨"TrainingBook$Tape", "numberAt", "(II)I"⟩, 6), (⟨"TrainingBook$Teller", "readText", "(LTrainingBook$Told;)I"⟩, 9), (⟨"TrainingBook$Told", "copyFrom", "(LTrainingBook$Told;)V"⟩, 9), (⟨"TrainingBook$Teller", "token", "()I"⟩, 9), (⟨"TrainingBook$Teller", "readStatement", "()Z"⟩, 9), (⟨"TrainingBook$Teller", "readGroup", "()Z"⟩, 9), (⟨"TrainingBook$Teller", "fail", "(I)Z"⟩, 9), (⟨"TrainingBook$Teller", "step", "()V"⟩, 9), (⟨"TrainingBook$Teller", "takeInt", "(II)I"⟩, 9)]
theorem lw_r1 : ∀ q ∈ lw_privs_1, lw_okq q := List.forall_mem_cons.mpr ⟨lw_p0, List.forall_mem_cons.mpr ⟨lw_p1, List.forall_mem_cons.mpr ⟨lw_p2, List.forall_mem_cons.mpr ⟨lw_p3, List.forall_mem_cons.mpr ⟨lw_p4, List.forall_mem_cons.mpr ⟨lw_p5, List.forall_mem_cons.mpr ⟨lw_p6, List.forall_mem_cons.mpr ⟨lw_p7, List.forall_mem_cons.mpr ⟨lw_p8, List.forall_mem_cons.mpr ⟨lw_p9, List.forall_mem_cons.mpr ⟨lw_p10, List.forall_mem_cons.mpr ⟨lw_p11, List.forall_mem_cons.mpr ⟨lw_p12, List.forall_mem_cons.mpr ⟨lw_p13, List.forall_mem_cons.mpr ⟨lw_p14, List.forall_mem_cons.mpr ⟨lw_p15, fun _ h => absurd h List.not_mem_nil⟩⟩⟩⟩⟩⟩⟩⟩⟩⟩⟩⟩⟩⟩⟩⟩
theorem lw_p16 : lw_okq (⟨"TrainingBook$Told", "addGroup", "(II)V"⟩, 9) := ⟨⟨by decide +kernel, by decide +kernel⟩, List.mem_of_getElem? (i := 26) (by decide +kernel), List.mem_of_getElem? (i := 381) (by decide +kernel), List.mem_of_getElem? (i := 382) (by decide +kernel)⟩
theorem lw_p17 : lw_okq (⟨"TrainingBook$Teller", "readLoad", "()Z"⟩, 9) := ⟨⟨by decide +kernel, by decide +kernel⟩, List.mem_of_getElem? (i := 80) (by decide +kernel), List.mem_of_getElem? (i := 385) (by decide +kernel), List.mem_of_getElem? (i := 386) (by decide +kernel)⟩
theorem lw_p18 : lw_okq (⟨"TrainingBook$Teller", "readCamp", "()Z"⟩, 9) := ⟨⟨by decide +kernel, by decide +kernel⟩, List.mem_of_getElem? (i := 80) (by decide +kernel), List.mem_of_getElem? (i := 389) (by decide +kernel), List.mem_of_getElem? (i := 390) (by decide +kernel)⟩
theorem lw_p19 : lw_okq (⟨"TrainingBook$Told", "addCamp", "(II)V"⟩, 9) := ⟨⟨by decide +kernel, by decide +kernel⟩, List.mem_of_getElem? (i := 26) (by decide +kernel), List.mem_of_getElem? (i := 393) (by decide +kernel), List.mem_of_getElem? (i := 394) (by decide +kernel)⟩
theorem lw_p20 : lw_okq (⟨"TrainingBook$Teller", "readSetting", "()Z"⟩, 9) := ⟨⟨by decide +kernel, by decide +kernel⟩, List.mem_of_getElem? (i := 80) (by decide +kernel), List.mem_of_getElem? (i := 397) (by decide +kernel), List.mem_of_getElem? (i := 398) (by decide +kernel)⟩
theorem lw_p21 : lw_okq (⟨"TrainingBook$Teller", "readPlan", "()Z"⟩, 9) := ⟨⟨by decide +kernel, by decide +kernel⟩, List.mem_of_getElem? (i := 80) (by decide +kernel), List.mem_of_getElem? (i := 405) (by decide +kernel), List.mem_of_getElem? (i := 406) (by decide +kernel)⟩
theorem lw_p22 : lw_okq (⟨"TrainingBook$Teller", "openAgain", "()Z"⟩, 9) := ⟨⟨by decide +kernel, by decide +kernel⟩, List.mem_of_getElem? (i := 80) (by decide +kernel), List.mem_of_getElem? (i := 409) (by decide +kernel), List.mem_of_getElem? (i := 410) (by decide +kernel)⟩
theorem lw_p23 : lw_okq (⟨"TrainingBook$Teller", "take", "(I)Z"⟩, 9) := ⟨⟨by decide +kernel, by decide +kernel⟩, List.mem_of_getElem? (i := 80) (by decide +kernel), List.mem_of_getElem? (i := 413) (by decide +kernel), List.mem_of_getElem? (i := 414) (by decide +kernel)⟩
theorem lw_p24 : lw_okq (⟨"TrainingBook$Teller", "closeAgain", "()Z"⟩, 9) := ⟨⟨by decide +kernel, by decide +kernel⟩, List.mem_of_getElem? (i := 80) (by decide +kernel), List.mem_of_getElem? (i := 417) (by decide +kernel), List.mem_of_getElem? (i := 418) (by decide +kernel)⟩
theorem lw_p25 : lw_okq (⟨"TrainingBook$Told", "repeatKinds", "(IIII)V"⟩, 9) := ⟨⟨by decide +kernel, by decide +kernel⟩, List.mem_of_getElem? (i := 26) (by decide +kernel), List.mem_of_getElem? (i := 421) (by decide +kernel), List.mem_of_getElem? (i := 422) (by decide +kernel)⟩
theorem lw_p26 : lw_okq (⟨"TrainingBook$Teller", "readDays", "()Z"⟩, 9) := ⟨⟨by decide +kernel, by decide +kernel⟩, List.mem_of_getElem? (i := 80) (by decide +kernel), List.mem_of_getElem? (i := 425) (by decide +kernel), List.mem_of_getElem? (i := 426) (by decide +kernel)⟩
theorem lw_p27 : lw_okq (⟨"TrainingBook$Told", "fillKinds", "(IIII)V"⟩, 9) := ⟨⟨by decide +kernel, by decide +kernel⟩, List.mem_of_getElem? (i := 26) (by decide +kernel), List.mem_of_getElem? (i := 429) (by decide +kernel), List.mem_of_getElem? (i := 430) (by decide +kernel)⟩
theorem lw_p28 : lw_okq (⟨"TrainingBook", "remember", "()V"⟩, 8) := ⟨⟨by decide +kernel, by decide +kernel⟩, List.mem_of_getElem? (i := 18) (by decide +kernel), List.mem_of_getElem? (i := 433) (by decide +kernel), List.mem_of_getElem? (i := 434) (by decide +kernel)⟩
theorem lw_p29 : lw_okq (⟨"TrainingBook$Told", "hasCamp", "(I)Z"⟩, 9) := ⟨⟨by decide +kernel, by decide +kernel⟩, List.mem_of_getElem? (i := 26) (by decide +kernel), List.mem_of_getElem? (i := 481) (by decide +kernel), List.mem_of_getElem? (i := 482) (by decide +kernel)⟩
theorem lw_p30 : lw_okq (⟨"TrainingBook$Told", "dropCamp", "(I)V"⟩, 9) := ⟨⟨by decide +kernel, by decide +kernel⟩, List.mem_of_getElem? (i := 26) (by decide +kernel), List.mem_of_getElem? (i := 485) (by decide +kernel), List.mem_of_getElem? (i := 486) (by decide +kernel)⟩
theorem lw_p31 : lw_okq (⟨"TrainingBook$Told", "hasGroup", "(I)Z"⟩, 9) := ⟨⟨by decide +kernel, by decide +kernel⟩, List.mem_of_getElem? (i := 26) (by decide +kernel), List.mem_of_getElem? (i := 493) (by decide +kernel), List.mem_of_getElem? (i := 494) (by decide +kernel)⟩
def lw_privs_2 : List (MethodName × Nat) := [(⟨"TrainingBook$Told", "addGroup", "(II)V"⟩, 9), (⟨"TrainingBook$Teller", "readLoad", "()Z"⟩, 9), (⟨"TrainingBook$Teller", "readCamp", "()Z"⟩, 9), (⟨"TrainingBook$Told", "addCamp", "(II)V"⟩, 9), (⟨"TrainingBook$Teller", "readSetting", "()Z"⟩, 9), (⟨"TrainingBook$Teller", "readPlan", "()Z"⟩, 9), (⟨"TrainingBook$Teller", "openAgain", "()Z"⟩, 9), (⟨"TrainingBook$Teller", "take", "(I)Z"⟩, 9), (⟨"TrainingBook$Teller", "closeAgain", "()Z"⟩, 9), (⟨"TrainingBook$Told", "repeatKinds", "(IIII)V"⟩, 9), (⟨"TrainingBook$Teller", "readDays", "()Z"⟩, 9), (⟨"TrainingBook$Told", "fillKinds", "(IIII)V"⟩, 9), (⟨"TrainingBook", "remember", "()V"⟩, 8), (⟨"TrainingBook$Told", "hasCamp", "(I)Z"⟩, 9), (⟨"TrainingBook$Told", "dropCamp", "(I)V"⟩, 9), (⟨"TrainingBook$Told", "hasGroup", "(I)Z"⟩, 9)]
theorem lw_r2 : ∀ q ∈ lw_privs_2, lw_okq q := List.forall_mem_cons.mpr ⟨lw_p16, List.forall_mem_cons.mpr ⟨lw_p17, List.forall_mem_cons.mpr ⟨lw_p18, List.forall_mem_cons.mpr ⟨lw_p19, List.forall_mem_cons.mpr ⟨lw_p20, List.forall_mem_cons.mpr ⟨lw_p21, List.forall_mem_cons.mpr ⟨lw_p22, List.forall_mem_cons.mpr ⟨lw_p23, List.forall_mem_cons.mpr ⟨lw_p24, List.forall_mem_cons.mpr ⟨lw_p25, List.forall_mem_cons.mpr ⟨lw_p26, List.forall_mem_cons.mpr ⟨lw_p27, List.forall_mem_cons.mpr ⟨lw_p28, List.forall_mem_cons.mpr ⟨lw_p29, List.forall_mem_cons.mpr ⟨lw_p30, List.forall_mem_cons.mpr ⟨lw_p31, fun _ h => absurd h List.not_mem_nil⟩⟩⟩⟩⟩⟩⟩⟩⟩⟩⟩⟩⟩⟩⟩⟩
theorem lw_p32 : lw_okq (⟨"TrainingBook$Told", "countOthers", "(IIII)I"⟩, 9) := ⟨⟨by decide +kernel, by decide +kernel⟩, List.mem_of_getElem? (i := 26) (by decide +kernel), List.mem_of_getElem? (i := 497) (by decide +kernel), List.mem_of_getElem? (i := 498) (by decide +kernel)⟩
theorem lw_p33 : lw_okq (⟨"TrainingBook", "countNumber", "(I)I"⟩, 8) := ⟨⟨by decide +kernel, by decide +kernel⟩, List.mem_of_getElem? (i := 18) (by decide +kernel), List.mem_of_getElem? (i := 510) (by decide +kernel), List.mem_of_getElem? (i := 511) (by decide +kernel)⟩
theorem lw_p34 : lw_okq (⟨"TrainingBook$Course", "follow", "(LTrainingBook$Told;III)V"⟩, 12) := ⟨⟨by decide +kernel, by decide +kernel⟩, List.mem_of_getElem? (i := 150) (by decide +kernel), List.mem_of_getElem? (i := 518) (by decide +kernel), List.mem_of_getElem? (i := 519) (by decide +kernel)⟩
theorem lw_p35 : lw_okq (⟨"TrainingBook$Course", "pitch", "(II)V"⟩, 12) := ⟨⟨by decide +kernel, by decide +kernel⟩, List.mem_of_getElem? (i := 150) (by decide +kernel), List.mem_of_getElem? (i := 523) (by decide +kernel), List.mem_of_getElem? (i := 524) (by decide +kernel)⟩
theorem lw_p36 : lw_okq (⟨"TrainingBook$Course", "live", "(II)V"⟩, 12) := ⟨⟨by decide +kernel, by decide +kernel⟩, List.mem_of_getElem? (i := 150) (by decide +kernel), List.mem_of_getElem? (i := 527) (by decide +kernel), List.mem_of_getElem? (i := 528) (by decide +kernel)⟩
theorem lw_p37 : lw_okq (⟨"TrainingBook$Course", "liveDay", "(II)V"⟩, 12) := ⟨⟨by decide +kernel, by decide +kernel⟩, List.mem_of_getElem? (i := 150) (by decide +kernel), List.mem_of_getElem? (i := 531) (by decide +kernel), List.mem_of_getElem? (i := 532) (by decide +kernel)⟩
theorem lw_p38 : lw_okq (⟨"TrainingBook$Course", "isHurt", "(I)Z"⟩, 12) := ⟨⟨by decide +kernel, by decide +kernel⟩, List.mem_of_getElem? (i := 150) (by decide +kernel), List.mem_of_getElem? (i := 535) (by decide +kernel), List.mem_of_getElem? (i := 536) (by decide +kernel)⟩
theorem lw_p39 : lw_okq (⟨"TrainingBook$Course", "held", "(II)I"⟩, 12) := ⟨⟨by decide +kernel, by decide +kernel⟩, List.mem_of_getElem? (i := 150) (by decide +kernel), List.mem_of_getElem? (i := 539) (by decide +kernel), List.mem_of_getElem? (i := 540) (by decide +kernel)⟩
theorem lw_p40 : lw_okq (⟨"TrainingBook$Course", "isTooMuch", "(I)Z"⟩, 12) := ⟨⟨by decide +kernel, by decide +kernel⟩, List.mem_of_getElem? (i := 150) (by decide +kernel), List.mem_of_getElem? (i := 547) (by decide +kernel), List.mem_of_getElem? (i := 548) (by decide +kernel)⟩
theorem lw_p41 : lw_okq (⟨"TrainingBook$Course", "acute", "(I)I"⟩, 12) := ⟨⟨by decide +kernel, by decide +kernel⟩, List.mem_of_getElem? (i := 150) (by decide +kernel), List.mem_of_getElem? (i := 551) (by decide +kernel), List.mem_of_getElem? (i := 552) (by decide +kernel)⟩
theorem lw_p42 : lw_okq (⟨"TrainingBook$Course", "chronic", "(I)I"⟩, 12) := ⟨⟨by decide +kernel, by decide +kernel⟩, List.mem_of_getElem? (i := 150) (by decide +kernel), List.mem_of_getElem? (i := 558) (by decide +kernel), List.mem_of_getElem? (i := 559) (by decide +kernel)⟩
theorem lw_p43 : lw_okq (⟨"TrainingBook", "formAsTold", "(II)I"⟩, 8) := ⟨⟨by decide +kernel, by decide +kernel⟩, List.mem_of_getElem? (i := 18) (by decide +kernel), List.mem_of_getElem? (i := 570) (by decide +kernel), List.mem_of_getElem? (i := 571) (by decide +kernel)⟩
theorem lw_p44 : lw_okq (⟨"TrainingBook$Course", "formOf", "(I)I"⟩, 12) := ⟨⟨by decide +kernel, by decide +kernel⟩, List.mem_of_getElem? (i := 150) (by decide +kernel), List.mem_of_getElem? (i := 574) (by decide +kernel), List.mem_of_getElem? (i := 575) (by decide +kernel)⟩
theorem lw_p45 : lw_okq (⟨"TrainingBook$Course", "tryRows", "(III)V"⟩, 12) := ⟨⟨by decide +kernel, by decide +kernel⟩, List.mem_of_getElem? (i := 150) (by decide +kernel), List.mem_of_getElem? (i := 599) (by decide +kernel), List.mem_of_getElem? (i := 600) (by decide +kernel)⟩
theorem lw_p46 : lw_okq (⟨"TrainingBook$Course", "keepIfBetter", "(II)V"⟩, 12) := ⟨⟨by decide +kernel, by decide +kernel⟩, List.mem_of_getElem? (i := 150) (by decide +kernel), List.mem_of_getElem? (i := 603) (by decide +kernel), List.mem_of_getElem? (i := 604) (by decide +kernel)⟩
theorem lw_p47 : lw_okq (⟨"TrainingBook", "greatestBeside", "(I)I"⟩, 8) := ⟨⟨by decide +kernel, by decide +kernel⟩, List.mem_of_getElem? (i := 18) (by decide +kernel), List.mem_of_getElem? (i := 613) (by decide +kernel), List.mem_of_getElem? (i := 614) (by decide +kernel)⟩
def lw_privs_3 : List (MethodName × Nat) := [(⟨"TrainingBook$Told", "countOthers", "(IIII)I"⟩, 9), (⟨"TrainingBook", "countNumber", "(I)I"⟩, 8), (⟨"TrainingBook$Course", "follow", "(LTrainingBook$Told;III)V"⟩, 12), (⟨"TrainingBook$Course", "pitch", "(II)V"⟩, 12), (⟨"TrainingBook$Course", "live", "(II)V"⟩, 12), (⟨"TrainingBook$Course", "liveDay", "(II)V"⟩, 12), (⟨"TrainingBook$Course", "isHurt", "(I)Z"⟩, 12), (⟨"TrainingBook$Course", "held", "(II)I"⟩, 12), (⟨"TrainingBook$Course", "isTooMuch", "(I)Z"⟩, 12), (⟨"TrainingBook$Course", "acute", "(I)I"⟩, 12), (⟨"TrainingBook$Course", "chronic", "(I)I"⟩, 12), (⟨"TrainingBook", "formAsTold", "(II)I"⟩, 8), (⟨"TrainingBook$Course", "formOf", "(I)I"⟩, 12), (⟨"TrainingBook$Course", "tryRows", "(III)V"⟩, 12), (⟨"TrainingBook$Course", "keepIfBetter", "(II)V"⟩, 12), (⟨"TrainingBook", "greatestBeside", "(I)I"⟩, 8)]
theorem lw_r3 : ∀ q ∈ lw_privs_3, lw_okq q := List.forall_mem_cons.mpr ⟨lw_p32, List.forall_mem_cons.mpr ⟨lw_p33, List.forall_mem_cons.mpr ⟨lw_p34, List.forall_mem_cons.mpr ⟨lw_p35, List.forall_mem_cons.mpr ⟨lw_p36, List.forall_mem_cons.mpr ⟨lw_p37, List.forall_mem_cons.mpr ⟨lw_p38, List.forall_mem_cons.mpr ⟨lw_p39, List.forall_mem_cons.mpr ⟨lw_p40, List.forall_mem_cons.mpr ⟨lw_p41, List.forall_mem_cons.mpr ⟨lw_p42, List.forall_mem_cons.mpr ⟨lw_p43, List.forall_mem_cons.mpr ⟨lw_p44, List.forall_mem_cons.mpr ⟨lw_p45, List.forall_mem_cons.mpr ⟨lw_p46, List.forall_mem_cons.mpr ⟨lw_p47, fun _ h => absurd h List.not_mem_nil⟩⟩⟩⟩⟩⟩⟩⟩⟩⟩⟩⟩⟩⟩⟩⟩
theorem lw_p48 : lw_okq (⟨"java/lang/Throwable", "fillInStackTrace", "(I)Ljava/lang/Throwable;"⟩, 6) := ⟨⟨by decide +kernel, by decide +kernel⟩, List.mem_of_getElem? (i := 683) (by decide +kernel), List.mem_of_getElem? (i := 681) (by decide +kernel), List.mem_of_getElem? (i := 682) (by decide +kernel)⟩
theorem lw_p49 : lw_okq (⟨"TrainingBookModel", "groups", "()I"⟩, 27) := ⟨⟨by decide +kernel, by decide +kernel⟩, List.mem_of_getElem? (i := 712) (by decide +kernel), List.mem_of_getElem? (i := 811) (by decide +kernel), List.mem_of_getElem? (i := 812) (by decide +kernel)⟩
theorem lw_p50 : lw_okq (⟨"TrainingBookModel", "keeps", "([I)V"⟩, 27) := ⟨⟨by decide +kernel, by decide +kernel⟩, List.mem_of_getElem? (i := 712) (by decide +kernel), List.mem_of_getElem? (i := 815) (by decide +kernel), List.mem_of_getElem? (i := 816) (by decide +kernel)⟩
theorem lw_p51 : lw_okq (⟨"TrainingBookModel", "comes", "(II)V"⟩, 27) := ⟨⟨by decide +kernel, by decide +kernel⟩, List.mem_of_getElem? (i := 712) (by decide +kernel), List.mem_of_getElem? (i := 819) (by decide +kernel), List.mem_of_getElem? (i := 820) (by decide +kernel)⟩
theorem lw_p52 : lw_okq (⟨"TrainingBookModel", "of", "(I)I"⟩, 27) := ⟨⟨by decide +kernel, by decide +kernel⟩, List.mem_of_getElem? (i := 712) (by decide +kernel), List.mem_of_getElem? (i := 834) (by decide +kernel), List.mem_of_getElem? (i := 835) (by decide +kernel)⟩
theorem lw_p53 : lw_okq (⟨"TrainingBookModel", "camps", "()I"⟩, 27) := ⟨⟨by decide +kernel, by decide +kernel⟩, List.mem_of_getElem? (i := 712) (by decide +kernel), List.mem_of_getElem? (i := 845) (by decide +kernel), List.mem_of_getElem? (i := 846) (by decide +kernel)⟩
theorem lw_p54 : lw_okq (⟨"TrainingBookModel", "campComes", "(II)V"⟩, 27) := ⟨⟨by decide +kernel, by decide +kernel⟩, List.mem_of_getElem? (i := 712) (by decide +kernel), List.mem_of_getElem? (i := 849) (by decide +kernel), List.mem_of_getElem? (i := 850) (by decide +kernel)⟩
theorem lw_p55 : lw_okq (⟨"TrainingBookModel", "strikes", "(I)V"⟩, 27) := ⟨⟨by decide +kernel, by decide +kernel⟩, List.mem_of_getElem? (i := 712) (by decide +kernel), List.mem_of_getElem? (i := 857) (by decide +kernel), List.mem_of_getElem? (i := 858) (by decide +kernel)⟩
theorem lw_p56 : lw_okq (⟨"TrainingBookModel", "areDays", "(III)Z"⟩, 27) := ⟨⟨by decide +kernel, by decide +kernel⟩, List.mem_of_getElem? (i := 712) (by decide +kernel), List.mem_of_getElem? (i := 865) (by decide +kernel), List.mem_of_getElem? (i := 866) (by decide +kernel)⟩
theorem lw_p57 : lw_okq (⟨"TrainingBookModel", "isOne", "(II)Z"⟩, 27) := ⟨⟨by decide +kernel, by decide +kernel⟩, List.mem_of_getElem? (i := 712) (by decide +kernel), List.mem_of_getElem? (i := 869) (by decide +kernel), List.mem_of_getElem? (i := 870) (by decide +kernel)⟩
theorem lw_p58 : lw_okq (⟨"TrainingBookModel", "isGroup", "(I)Z"⟩, 27) := ⟨⟨by decide +kernel, by decide +kernel⟩, List.mem_of_getElem? (i := 712) (by decide +kernel), List.mem_of_getElem? (i := 873) (by decide +kernel), List.mem_of_getElem? (i := 874) (by decide +kernel)⟩
theorem lw_p59 : lw_okq (⟨"TrainingBookModel", "kindOf", "(II)I"⟩, 27) := ⟨⟨by decide +kernel, by decide +kernel⟩, List.mem_of_getElem? (i := 712) (by decide +kernel), List.mem_of_getElem? (i := 877) (by decide +kernel), List.mem_of_getElem? (i := 878) (by decide +kernel)⟩
theorem lw_p60 : lw_okq (⟨"TrainingBookModel", "put", "(I)V"⟩, 27) := ⟨⟨by decide +kernel, by decide +kernel⟩, List.mem_of_getElem? (i := 712) (by decide +kernel), List.mem_of_getElem? (i := 897) (by decide +kernel), List.mem_of_getElem? (i := 898) (by decide +kernel)⟩
theorem lw_p61 : lw_okq (⟨"TrainingBookModel", "here", "()I"⟩, 27) := ⟨⟨by decide +kernel, by decide +kernel⟩, List.mem_of_getElem? (i := 712) (by decide +kernel), List.mem_of_getElem? (i := 909) (by decide +kernel), List.mem_of_getElem? (i := 910) (by decide +kernel)⟩
theorem lw_p62 : lw_okq (⟨"TrainingBookModel", "statement", "()V"⟩, 27) := ⟨⟨by decide +kernel, by decide +kernel⟩, List.mem_of_getElem? (i := 712) (by decide +kernel), List.mem_of_getElem? (i := 913) (by decide +kernel), List.mem_of_getElem? (i := 914) (by decide +kernel)⟩
theorem lw_p63 : lw_okq (⟨"TrainingBookModel", "word", "()I"⟩, 27) := ⟨⟨by decide +kernel, by decide +kernel⟩, List.mem_of_getElem? (i := 712) (by decide +kernel), List.mem_of_getElem? (i := 917) (by decide +kernel), List.mem_of_getElem? (i := 918) (by decide +kernel)⟩
def lw_privs_4 : List (MethodName × Nat) := [(⟨"java/lang/Throwable", "fillInStackTrace", "(I)Ljava/lang/Throwable;"⟩, 6), (⟨"TrainingBookModel", "groups", "()I"⟩, 27), (⟨"TrainingBookModel", "keeps", "([I)V"⟩, 27), (⟨"TrainingBookModel", "comes", "(II)V"⟩, 27), (⟨"TrainingBookModel", "of", "(I)I"⟩, 27), (⟨"TrainingBookModel", "camps", "()I"⟩, 27), (⟨"TrainingBookModel", "campComes", "(II)V"⟩, 27), (⟨"TrainingBookModel", "strikes", "(I)V"⟩, 27), (⟨"TrainingBookModel", "areDays", "(III)Z"⟩, 27), (⟨"TrainingBookModel", "isOne", "(II)Z"⟩, 27), (⟨"TrainingBookModel", "isGroup", "(I)Z"⟩, 27), (⟨"TrainingBookModel", "kindOf", "(II)I"⟩, 27), (⟨"TrainingBookModel", "put", "(I)V"⟩, 27), (⟨"TrainingBookModel", "here", "()I"⟩, 27), (⟨"TrainingBookModel", "statement", "()V"⟩, 27), (⟨"TrainingBookModel", "word", "()I"⟩, 27)]
theorem lw_r4 : ∀ q ∈ lw_privs_4, lw_okq q := List.forall_mem_cons.mpr ⟨lw_p48, List.forall_mem_cons.mpr ⟨lw_p49, List.forall_mem_cons.mpr ⟨lw_p50, List.forall_mem_cons.mpr ⟨lw_p51, List.forall_mem_cons.mpr ⟨lw_p52, List.forall_mem_cons.mpr ⟨lw_p53, List.forall_mem_cons.mpr ⟨lw_p54, List.forall_mem_cons.mpr ⟨lw_p55, List.forall_mem_cons.mpr ⟨lw_p56, List.forall_mem_cons.mpr ⟨lw_p57, List.forall_mem_cons.mpr ⟨lw_p58, List.forall_mem_cons.mpr ⟨lw_p59, List.forall_mem_cons.mpr ⟨lw_p60, List.forall_mem_cons.mpr ⟨lw_p61, List.forall_mem_cons.mpr ⟨lw_p62, List.forall_mem_cons.mpr ⟨lw_p63, fun _ h => absurd h List.not_mem_nil⟩⟩⟩⟩⟩⟩⟩⟩⟩⟩⟩⟩⟩⟩⟩⟩
theorem lw_p64 : lw_okq (⟨"TrainingBookModel", "fails", "(II)V"⟩, 27) := ⟨⟨by decide +kernel, by decide +kernel⟩, List.mem_of_getElem? (i := 712) (by decide +kernel), List.mem_of_getElem? (i := 924) (by decide +kernel), List.mem_of_getElem? (i := 925) (by decide +kernel)⟩
theorem lw_p65 : lw_okq (⟨"TrainingBookModel", "number", "(II)I"⟩, 27) := ⟨⟨by decide +kernel, by decide +kernel⟩, List.mem_of_getElem? (i := 712) (by decide +kernel), List.mem_of_getElem? (i := 928) (by decide +kernel), List.mem_of_getElem? (i := 929) (by decide +kernel)⟩
theorem lw_p66 : lw_okq (⟨"TrainingBookModel", "isNumber", "()Z"⟩, 27) := ⟨⟨by decide +kernel, by decide +kernel⟩, List.mem_of_getElem? (i := 712) (by decide +kernel), List.mem_of_getElem? (i := 932) (by decide +kernel), List.mem_of_getElem? (i := 933) (by decide +kernel)⟩
theorem lw_p67 : lw_okq (⟨"TrainingBookModel", "planTold", "()V"⟩, 27) := ⟨⟨by decide +kernel, by decide +kernel⟩, List.mem_of_getElem? (i := 712) (by decide +kernel), List.mem_of_getElem? (i := 939) (by decide +kernel), List.mem_of_getElem? (i := 940) (by decide +kernel)⟩
theorem lw_p68 : lw_okq (⟨"TrainingBookModel", "closes", "()V"⟩, 27) := ⟨⟨by decide +kernel, by decide +kernel⟩, List.mem_of_getElem? (i := 712) (by decide +kernel), List.mem_of_getElem? (i := 943) (by decide +kernel), List.mem_of_getElem? (i := 944) (by decide +kernel)⟩
theorem lw_p69 : lw_okq (⟨"TrainingBookModel", "item", "()V"⟩, 27) := ⟨⟨by decide +kernel, by decide +kernel⟩, List.mem_of_getElem? (i := 712) (by decide +kernel), List.mem_of_getElem? (i := 947) (by decide +kernel), List.mem_of_getElem? (i := 948) (by decide +kernel)⟩
theorem lw_p70 : lw_okq (⟨"TrainingBookModel", "named", "(II)V"⟩, 27) := ⟨⟨by decide +kernel, by decide +kernel⟩, List.mem_of_getElem? (i := 712) (by decide +kernel), List.mem_of_getElem? (i := 951) (by decide +kernel), List.mem_of_getElem? (i := 952) (by decide +kernel)⟩
theorem lw_p71 : lw_okq (⟨"TrainingBookModel", "goes", "(II)V"⟩, 27) := ⟨⟨by decide +kernel, by decide +kernel⟩, List.mem_of_getElem? (i := 712) (by decide +kernel), List.mem_of_getElem? (i := 963) (by decide +kernel), List.mem_of_getElem? (i := 964) (by decide +kernel)⟩
theorem lw_p72 : lw_okq (⟨"TrainingBookModel", "isCamp", "(I)Z"⟩, 27) := ⟨⟨by decide +kernel, by decide +kernel⟩, List.mem_of_getElem? (i := 712) (by decide +kernel), List.mem_of_getElem? (i := 967) (by decide +kernel), List.mem_of_getElem? (i := 968) (by decide +kernel)⟩
theorem lw_p73 : lw_okq (⟨"TrainingBookModel", "acute", "(I)I"⟩, 27) := ⟨⟨by decide +kernel, by decide +kernel⟩, List.mem_of_getElem? (i := 712) (by decide +kernel), List.mem_of_getElem? (i := 971) (by decide +kernel), List.mem_of_getElem? (i := 972) (by decide +kernel)⟩
theorem lw_p74 : lw_okq (⟨"TrainingBookModel", "chronic", "(I)I"⟩, 27) := ⟨⟨by decide +kernel, by decide +kernel⟩, List.mem_of_getElem? (i := 712) (by decide +kernel), List.mem_of_getElem? (i := 975) (by decide +kernel), List.mem_of_getElem? (i := 976) (by decide +kernel)⟩
theorem lw_p75 : lw_okq (⟨"TrainingBookModel", "formOf", "(II)I"⟩, 27) := ⟨⟨by decide +kernel, by decide +kernel⟩, List.mem_of_getElem? (i := 712) (by decide +kernel), List.mem_of_getElem? (i := 983) (by decide +kernel), List.mem_of_getElem? (i := 984) (by decide +kernel)⟩
theorem lw_p76 : lw_okq (⟨"TrainingBookModel", "formAt", "(I)I"⟩, 27) := ⟨⟨by decide +kernel, by decide +kernel⟩, List.mem_of_getElem? (i := 712) (by decide +kernel), List.mem_of_getElem? (i := 987) (by decide +kernel), List.mem_of_getElem? (i := 988) (by decide +kernel)⟩
theorem lw_p77 : lw_okq (⟨"TrainingBookModel", "remembers", "(I)V"⟩, 27) := ⟨⟨by decide +kernel, by decide +kernel⟩, List.mem_of_getElem? (i := 712) (by decide +kernel), List.mem_of_getElem? (i := 1008) (by decide +kernel), List.mem_of_getElem? (i := 1009) (by decide +kernel)⟩
theorem lw_p78 : lw_okq (⟨"TrainingBookModel", "comesBack", "(I)V"⟩, 27) := ⟨⟨by decide +kernel, by decide +kernel⟩, List.mem_of_getElem? (i := 712) (by decide +kernel), List.mem_of_getElem? (i := 1012) (by decide +kernel), List.mem_of_getElem? (i := 1013) (by decide +kernel)⟩
theorem lw_p79 : lw_okq (⟨"TrainingBookModel", "isHale", "(II)Z"⟩, 27) := ⟨⟨by decide +kernel, by decide +kernel⟩, List.mem_of_getElem? (i := 712) (by decide +kernel), List.mem_of_getElem? (i := 1020) (by decide +kernel), List.mem_of_getElem? (i := 1021) (by decide +kernel)⟩
def lw_privs_5 : List (MethodName × Nat) := [(⟨"TrainingBookModel", "fails", "(II)V"⟩, 27), (⟨"TrainingBookModel", "number", "(II)I"⟩, 27), (⟨"TrainingBookModel", "isNumber", "()Z"⟩, 27), (⟨"TrainingBookModel", "planTold", "()V"⟩, 27), (⟨"TrainingBookModel", "closes", "()V"⟩, 27), (⟨"TrainingBookModel", "item", "()V"⟩, 27), (⟨"TrainingBookModel", "named", "(II)V"⟩, 27), (⟨"TrainingBookModel", "goes", "(II)V"⟩, 27), (⟨"TrainingBookModel", "isCamp", "(I)Z"⟩, 27), (⟨"TrainingBookModel", "acute", "(I)I"⟩, 27), (⟨"TrainingBookModel", "chronic", "(I)I"⟩, 27), (⟨"TrainingBookModel", "formOf", "(II)I"⟩, 27), (⟨"TrainingBookModel", "formAt", "(I)I"⟩, 27), (⟨"TrainingBookModel", "remembers", "(I)V"⟩, 27), (⟨"TrainingBookModel", "comesBack", "(I)V"⟩, 27), (⟨"TrainingBookModel", "isHale", "(II)Z"⟩, 27)]
theorem lw_r5 : ∀ q ∈ lw_privs_5, lw_okq q := List.forall_mem_cons.mpr ⟨lw_p64, List.forall_mem_cons.mpr ⟨lw_p65, List.forall_mem_cons.mpr ⟨lw_p66, List.forall_mem_cons.mpr ⟨lw_p67, List.forall_mem_cons.mpr ⟨lw_p68, List.forall_mem_cons.mpr ⟨lw_p69, List.forall_mem_cons.mpr ⟨lw_p70, List.forall_mem_cons.mpr ⟨lw_p71, List.forall_mem_cons.mpr ⟨lw_p72, List.forall_mem_cons.mpr ⟨lw_p73, List.forall_mem_cons.mpr ⟨lw_p74, List.forall_mem_cons.mpr ⟨lw_p75, List.forall_mem_cons.mpr ⟨lw_p76, List.forall_mem_cons.mpr ⟨lw_p77, List.forall_mem_cons.mpr ⟨lw_p78, List.forall_mem_cons.mpr ⟨lw_p79, fun _ h => absurd h List.not_mem_nil⟩⟩⟩⟩⟩⟩⟩⟩⟩⟩⟩⟩⟩⟩⟩⟩
def lw_privs : List (MethodName × Nat) := lw_privs_1 ++ (lw_privs_2 ++ (lw_privs_3 ++ (lw_privs_4 ++ (lw_privs_5))))
def lw_tbl : List Cond := k2_sels lw_privs ++ tables_1
theorem lw_privs_ok : ∀ q ∈ lw_privs, lw_okq q := by
  show ∀ q ∈ lw_privs_1 ++ (lw_privs_2 ++ (lw_privs_3 ++ (lw_privs_4 ++ (lw_privs_5)))), lw_okq q
  exact List.forall_mem_append.mpr ⟨lw_r1, List.forall_mem_append.mpr ⟨lw_r2, List.forall_mem_append.mpr ⟨lw_r3, List.forall_mem_append.mpr ⟨lw_r4, lw_r5⟩⟩⟩⟩
end
section
def RX0 : String := "TrainingBook$Course"
def TX0 : u_T := fun k => match k with
  | 0 => ("TrainingBook$Course", "settings", "[I", true)
  | 1 => ("TrainingBook$Course", "kindLoads", "[I", true)
  | 2 => ("TrainingBook$Course", "kinds", "[I", true)
  | 3 => ("TrainingBook$Course", "inCamp", "[Z", true)
  | 4 => ("TrainingBook$Course", "loads", "[I", true)
  | 5 => ("TrainingBook$Course", "fits", "[I", true)
  | 6 => ("TrainingBook$Course", "tireds", "[I", true)
  | 7 => ("TrainingBook$Course", "sums", "[I", true)
  | 8 => ("TrainingBook$Course", "healed", "[I", true)
  | 9 => ("TrainingBook$Course", "hurting", "[Z", true)
  | 10 => ("TrainingBook$Course", "bestForm", "I", false)
  | _ => ("TrainingBook$Course", "bestRow", "I", false)
def tyX0 : Nat → FieldType := fun k => match k with
  | 0 => .array .int
  | 1 => .array .int
  | 2 => .array .int
  | 3 => .array .boolean
  | 4 => .array .int
  | 5 => .array .int
  | 6 => .array .int
  | 7 => .array .int
  | 8 => .array .int
  | 9 => .array .boolean
  | 10 => .int
  | _ => .int
abbrev wsX00 : List Cond := u_ws RX0 TX0 12
theorem nmX0 : ∀ a, a < 12 → ∀ b, b < 12 → a ≠ b → (TX0 a).2.1 ≠ (TX0 b).2.1 := by decide +kernel
theorem tyX0_ok : ∀ k, k < 12 → parseFieldDescriptor (TX0 k).2.2.1 = some (tyX0 k) := by decide +kernel
abbrev cX0_init : ByteArray := prog_2_method_1_code
def yX0_init : MethodName := ⟨RX0, "<init>", "()V"⟩
abbrev cX0_follow : ByteArray := prog_2_method_2_code
def yX0_follow : MethodName := ⟨RX0, "follow", "(LTrainingBook$Told;III)V"⟩
abbrev cX0_pitch : ByteArray := prog_2_method_3_code
def yX0_pitch : MethodName := ⟨RX0, "pitch", "(II)V"⟩
abbrev cX0_live : ByteArray := prog_2_method_4_code
def yX0_live : MethodName := ⟨RX0, "live", "(II)V"⟩
abbrev cX0_liveDay : ByteArray := prog_2_method_5_code
def yX0_liveDay : MethodName := ⟨RX0, "liveDay", "(II)V"⟩
abbrev cX0_held : ByteArray := prog_2_method_6_code
def yX0_held : MethodName := ⟨RX0, "held", "(II)I"⟩
abbrev cX0_decayed : ByteArray := prog_2_method_7_code
def yX0_decayed : MethodName := ⟨RX0, "decayed", "(II)I"⟩
abbrev cX0_isHurt : ByteArray := prog_2_method_8_code
def yX0_isHurt : MethodName := ⟨RX0, "isHurt", "(I)Z"⟩
abbrev cX0_isTooMuch : ByteArray := prog_2_method_9_code
def yX0_isTooMuch : MethodName := ⟨RX0, "isTooMuch", "(I)Z"⟩
abbrev cX0_acute : ByteArray := prog_2_method_10_code
def yX0_acute : MethodName := ⟨RX0, "acute", "(I)I"⟩
abbrev cX0_chronic : ByteArray := prog_2_method_11_code
def yX0_chronic : MethodName := ⟨RX0, "chronic", "(I)I"⟩
abbrev cX0_formOf : ByteArray := prog_2_method_12_code
def yX0_formOf : MethodName := ⟨RX0, "formOf", "(I)I"⟩
abbrev cX0_tryRows : ByteArray := prog_2_method_13_code
def yX0_tryRows : MethodName := ⟨RX0, "tryRows", "(III)V"⟩
abbrev cX0_keepIfBetter : ByteArray := prog_2_method_14_code
def yX0_keepIfBetter : MethodName := ⟨RX0, "keepIfBetter", "(II)V"⟩
def RX1 : String := "TrainingBook$Tape"
def TX1 : u_T := fun k => match k with
  | 0 => ("TrainingBook$Tape", "bytes", "[B", true)
  | 1 => ("TrainingBook$Tape", "length", "I", false)
  | 2 => ("TrainingBook$Tape", "tokens", "[I", true)
  | 3 => ("TrainingBook$Tape", "places", "[I", true)
  | 4 => ("TrainingBook$Tape", "numbers", "[I", true)
  | _ => ("TrainingBook$Tape", "size", "I", false)
def tyX1 : Nat → FieldType := fun k => match k with
  | 0 => .array .byte
  | 1 => .int
  | 2 => .array .int
  | 3 => .array .int
  | 4 => .array .int
  | _ => .int
abbrev wsX10 : List Cond := u_ws RX1 TX1 6
theorem nmX1 : ∀ a, a < 6 → ∀ b, b < 6 → a ≠ b → (TX1 a).2.1 ≠ (TX1 b).2.1 := by decide +kernel
theorem tyX1_ok : ∀ k, k < 6 → parseFieldDescriptor (TX1 k).2.2.1 = some (tyX1 k) := by decide +kernel
abbrev cX1_init : ByteArray := prog_3_method_1_code
def yX1_init : MethodName := ⟨RX1, "<init>", "()V"⟩
abbrev cX1_append : ByteArray := prog_3_method_2_code
def yX1_append : MethodName := ⟨RX1, "append", "(I)V"⟩
abbrev cX1_split : ByteArray := prog_3_method_3_code
def yX1_split : MethodName := ⟨RX1, "split", "()V"⟩
abbrev cX1_note : ByteArray := prog_3_method_4_code
def yX1_note : MethodName := ⟨RX1, "note", "(III)V"⟩
abbrev cX1_endOfWord : ByteArray := prog_3_method_5_code
def yX1_endOfWord : MethodName := ⟨RX1, "endOfWord", "(I)I"⟩
abbrev cX1_endOfInt : ByteArray := prog_3_method_6_code
def yX1_endOfInt : MethodName := ⟨RX1, "endOfInt", "(I)I"⟩
abbrev cX1_wordAt : ByteArray := prog_3_method_7_code
def yX1_wordAt : MethodName := ⟨RX1, "wordAt", "(II)I"⟩
abbrev cX1_isTextAt : ByteArray := prog_3_method_8_code
def yX1_isTextAt : MethodName := ⟨RX1, "isTextAt", "(Ljava/lang/String;II)Z"⟩
abbrev cX1_numberAt : ByteArray := prog_3_method_9_code
def yX1_numberAt : MethodName := ⟨RX1, "numberAt", "(II)I"⟩
abbrev cX1_isLetter : ByteArray := prog_3_method_10_code
def yX1_isLetter : MethodName := ⟨RX1, "isLetter", "(I)Z"⟩
abbrev cX1_isDigit : ByteArray := prog_3_method_11_code
def yX1_isDigit : MethodName := ⟨RX1, "isDigit", "(I)Z"⟩
abbrev cX1_isBlank : ByteArray := prog_3_method_12_code
def yX1_isBlank : MethodName := ⟨RX1, "isBlank", "(I)Z"⟩
abbrev cX1_signOf : ByteArray := prog_3_method_13_code
def yX1_signOf : MethodName := ⟨RX1, "signOf", "(I)I"⟩
abbrev cX1_textOf : ByteArray := prog_3_method_14_code
def yX1_textOf : MethodName := ⟨RX1, "textOf", "(I)Ljava/lang/String;"⟩
def RX2 : String := "TrainingBook$Teller"
def TX2 : u_T := fun k => match k with
  | 0 => ("TrainingBook$Teller", "tape", "LTrainingBook$Tape;", true)
  | 1 => ("TrainingBook$Teller", "draft", "LTrainingBook$Told;", true)
  | 2 => ("TrainingBook$Teller", "at", "I", false)
  | 3 => ("TrainingBook$Teller", "found", "I", false)
  | 4 => ("TrainingBook$Teller", "planned", "I", false)
  | 5 => ("TrainingBook$Teller", "nextDay", "I", false)
  | 6 => ("TrainingBook$Teller", "agains", "I", false)
  | 7 => ("TrainingBook$Teller", "againDays", "[I", true)
  | _ => ("TrainingBook$Teller", "againTimes", "[I", true)
def tyX2 : Nat → FieldType := fun k => match k with
  | 0 => .object "TrainingBook$Tape"
  | 1 => .object "TrainingBook$Told"
  | 2 => .int
  | 3 => .int
  | 4 => .int
  | 5 => .int
  | 6 => .int
  | 7 => .array .int
  | _ => .array .int
abbrev wsX20 : List Cond := u_ws RX2 TX2 9
theorem nmX2 : ∀ a, a < 9 → ∀ b, b < 9 → a ≠ b → (TX2 a).2.1 ≠ (TX2 b).2.1 := by decide +kernel
theorem tyX2_ok : ∀ k, k < 9 → parseFieldDescriptor (TX2 k).2.2.1 = some (tyX2 k) := by decide +kernel
abbrev cX2_init : ByteArray := prog_4_method_1_code
def yX2_init : MethodName := ⟨RX2, "<init>", "()V"⟩
abbrev cX2_readText : ByteArray := prog_4_method_2_code
def yX2_readText : MethodName := ⟨RX2, "readText", "(LTrainingBook$Told;)I"⟩
abbrev cX2_readStatement : ByteArray := prog_4_method_3_code
def yX2_readStatement : MethodName := ⟨RX2, "readStatement", "()Z"⟩
abbrev cX2_readGroup : ByteArray := prog_4_method_4_code
def yX2_readGroup : MethodName := ⟨RX2, "readGroup", "()Z"⟩
abbrev cX2_readLoad : ByteArray := prog_4_method_5_code
def yX2_readLoad : MethodName := ⟨RX2, "readLoad", "()Z"⟩
abbrev cX2_readCamp : ByteArray := prog_4_method_6_code
def yX2_readCamp : MethodName := ⟨RX2, "readCamp", "()Z"⟩
abbrev cX2_readSetting : ByteArray := prog_4_method_7_code
def yX2_readSetting : MethodName := ⟨RX2, "readSetting", "()Z"⟩
abbrev cX2_readPlan : ByteArray := prog_4_method_8_code
def yX2_readPlan : MethodName := ⟨RX2, "readPlan", "()Z"⟩
abbrev cX2_openAgain : ByteArray := prog_4_method_9_code
def yX2_openAgain : MethodName := ⟨RX2, "openAgain", "()Z"⟩
abbrev cX2_closeAgain : ByteArray := prog_4_method_10_code
def yX2_closeAgain : MethodName := ⟨RX2, "closeAgain", "()Z"⟩
abbrev cX2_readDays : ByteArray := prog_4_method_11_code
def yX2_readDays : MethodName := ⟨RX2, "readDays", "()Z"⟩
abbrev cX2_token : ByteArray := prog_4_method_12_code
def yX2_token : MethodName := ⟨RX2, "token", "()I"⟩
abbrev cX2_step : ByteArray := prog_4_method_13_code
def yX2_step : MethodName := ⟨RX2, "step", "()V"⟩
abbrev cX2_take : ByteArray := prog_4_method_14_code
def yX2_take : MethodName := ⟨RX2, "take", "(I)Z"⟩
abbrev cX2_takeInt : ByteArray := prog_4_method_15_code
def yX2_takeInt : MethodName := ⟨RX2, "takeInt", "(II)I"⟩
abbrev cX2_fail : ByteArray := prog_4_method_16_code
def yX2_fail : MethodName := ⟨RX2, "fail", "(I)Z"⟩
def RX3 : String := "TrainingBook$Told"
def TX3 : u_T := fun k => match k with
  | 0 => ("TrainingBook$Told", "groups", "I", false)
  | 1 => ("TrainingBook$Told", "firstFits", "[I", true)
  | 2 => ("TrainingBook$Told", "firstTireds", "[I", true)
  | 3 => ("TrainingBook$Told", "kinds", "[I", true)
  | 4 => ("TrainingBook$Told", "camps", "I", false)
  | 5 => ("TrainingBook$Told", "campFirsts", "[I", true)
  | 6 => ("TrainingBook$Told", "campLasts", "[I", true)
  | 7 => ("TrainingBook$Told", "loads", "[I", true)
  | _ => ("TrainingBook$Told", "settings", "[I", true)
def tyX3 : Nat → FieldType := fun k => match k with
  | 0 => .int
  | 1 => .array .int
  | 2 => .array .int
  | 3 => .array .int
  | 4 => .int
  | 5 => .array .int
  | 6 => .array .int
  | 7 => .array .int
  | _ => .array .int
abbrev wsX30 : List Cond := u_ws RX3 TX3 9
theorem nmX3 : ∀ a, a < 9 → ∀ b, b < 9 → a ≠ b → (TX3 a).2.1 ≠ (TX3 b).2.1 := by decide +kernel
theorem tyX3_ok : ∀ k, k < 9 → parseFieldDescriptor (TX3 k).2.2.1 = some (tyX3 k) := by decide +kernel
abbrev cX3_init : ByteArray := prog_5_method_1_code
def yX3_init : MethodName := ⟨RX3, "<init>", "()V"⟩
abbrev cX3_copyFrom : ByteArray := prog_5_method_2_code
def yX3_copyFrom : MethodName := ⟨RX3, "copyFrom", "(LTrainingBook$Told;)V"⟩
abbrev cX3_hasGroup : ByteArray := prog_5_method_3_code
def yX3_hasGroup : MethodName := ⟨RX3, "hasGroup", "(I)Z"⟩
abbrev cX3_hasCamp : ByteArray := prog_5_method_4_code
def yX3_hasCamp : MethodName := ⟨RX3, "hasCamp", "(I)Z"⟩
abbrev cX3_addGroup : ByteArray := prog_5_method_5_code
def yX3_addGroup : MethodName := ⟨RX3, "addGroup", "(II)V"⟩
abbrev cX3_addCamp : ByteArray := prog_5_method_6_code
def yX3_addCamp : MethodName := ⟨RX3, "addCamp", "(II)V"⟩
abbrev cX3_dropCamp : ByteArray := prog_5_method_7_code
def yX3_dropCamp : MethodName := ⟨RX3, "dropCamp", "(I)V"⟩
abbrev cX3_countOthers : ByteArray := prog_5_method_8_code
def yX3_countOthers : MethodName := ⟨RX3, "countOthers", "(IIII)I"⟩
abbrev cX3_fillKinds : ByteArray := prog_5_method_9_code
def yX3_fillKinds : MethodName := ⟨RX3, "fillKinds", "(IIII)V"⟩
abbrev cX3_repeatKinds : ByteArray := prog_5_method_10_code
def yX3_repeatKinds : MethodName := ⟨RX3, "repeatKinds", "(IIII)V"⟩
def RX4 : String := "TrainingBook"
def TX4 : u_T := fun k => match k with
  | 0 => ("TrainingBook", "told", "LTrainingBook$Told;", true)
  | 1 => ("TrainingBook", "past", "[LTrainingBook$Told;", true)
  | 2 => ("TrainingBook", "undos", "I", false)
  | 3 => ("TrainingBook", "nextPast", "I", false)
  | 4 => ("TrainingBook", "teller", "LTrainingBook$Teller;", true)
  | 5 => ("TrainingBook", "course", "LTrainingBook$Course;", true)
  | 6 => ("TrainingBook", "otherCourse", "LTrainingBook$Course;", true)
  | _ => ("TrainingBook", "forms", "[I", true)
def tyX4 : Nat → FieldType := fun k => match k with
  | 0 => .object "TrainingBook$Told"
  | 1 => .array (.object "TrainingBook$Told")
  | 2 => .int
  | 3 => .int
  | 4 => .object "TrainingBook$Teller"
  | 5 => .object "TrainingBook$Course"
  | 6 => .object "TrainingBook$Course"
  | _ => .array .int
abbrev wsX40 : List Cond := u_ws RX4 TX4 8
theorem nmX4 : ∀ a, a < 8 → ∀ b, b < 8 → a ≠ b → (TX4 a).2.1 ≠ (TX4 b).2.1 := by decide +kernel
theorem tyX4_ok : ∀ k, k < 8 → parseFieldDescriptor (TX4 k).2.2.1 = some (tyX4 k) := by decide +kernel
abbrev cX4_init : ByteArray := prog_1_method_1_code
def yX4_init : MethodName := ⟨RX4, "<init>", "()V"⟩
abbrev cX4_feed : ByteArray := prog_1_method_2_code
def yX4_feed : MethodName := ⟨RX4, "feed", "(IIIII)I"⟩
abbrev cX4_end : ByteArray := prog_1_method_3_code
def yX4_end : MethodName := ⟨RX4, "end", "(I)Z"⟩
abbrev cX4_tell : ByteArray := prog_1_method_4_code
def yX4_tell : MethodName := ⟨RX4, "tell", "()I"⟩
abbrev cX4_fault : ByteArray := prog_1_method_5_code
def yX4_fault : MethodName := ⟨RX4, "fault", "()I"⟩
abbrev cX4_group : ByteArray := prog_1_method_6_code
def yX4_group : MethodName := ⟨RX4, "group", "(II)I"⟩
abbrev cX4_load : ByteArray := prog_1_method_7_code
def yX4_load : MethodName := ⟨RX4, "load", "(II)Z"⟩
abbrev cX4_set : ByteArray := prog_1_method_8_code
def yX4_set : MethodName := ⟨RX4, "set", "(II)Z"⟩
abbrev cX4_camp : ByteArray := prog_1_method_9_code
def yX4_camp : MethodName := ⟨RX4, "camp", "(II)I"⟩
abbrev cX4_strike : ByteArray := prog_1_method_10_code
def yX4_strike : MethodName := ⟨RX4, "strike", "(I)I"⟩
abbrev cX4_plan : ByteArray := prog_1_method_11_code
def yX4_plan : MethodName := ⟨RX4, "plan", "(IIII)I"⟩
abbrev cX4_undo : ByteArray := prog_1_method_12_code
def yX4_undo : MethodName := ⟨RX4, "undo", "()I"⟩
abbrev cX4_count : ByteArray := prog_1_method_13_code
def yX4_count : MethodName := ⟨RX4, "count", "(I)I"⟩
abbrev cX4_camped : ByteArray := prog_1_method_14_code
def yX4_camped : MethodName := ⟨RX4, "camped", "(IZ)I"⟩
abbrev cX4_day : ByteArray := prog_1_method_15_code
def yX4_day : MethodName := ⟨RX4, "day", "(III)I"⟩
abbrev cX4_form : ByteArray := prog_1_method_16_code
def yX4_form : MethodName := ⟨RX4, "form", "(II)I"⟩
abbrev cX4_week : ByteArray := prog_1_method_17_code
def yX4_week : MethodName := ⟨RX4, "week", "(II)I"⟩
abbrev cX4_injured : ByteArray := prog_1_method_18_code
def yX4_injured : MethodName := ⟨RX4, "injured", "(III)I"⟩
abbrev cX4_peak : ByteArray := prog_1_method_19_code
def yX4_peak : MethodName := ⟨RX4, "peak", "(III)I"⟩
abbrev cX4_taper : ByteArray := prog_1_method_20_code
def yX4_taper : MethodName := ⟨RX4, "taper", "(II)I"⟩
abbrev cX4_best : ByteArray := prog_1_method_21_code
def yX4_best : MethodName := ⟨RX4, "best", "(IIII)I"⟩
abbrev cX4_team : ByteArray := prog_1_method_22_code
def yX4_team : MethodName := ⟨RX4, "team", "(II)I"⟩
abbrev cX4_safe : ByteArray := prog_1_method_23_code
def yX4_safe : MethodName := ⟨RX4, "safe", "(II)I"⟩
abbrev cX4_row : ByteArray := prog_1_method_24_code
def yX4_row : MethodName := ⟨RX4, "row", "(III)I"⟩
abbrev cX4_swap : ByteArray := prog_1_method_25_code
def yX4_swap : MethodName := ⟨RX4, "swap", "(IIII)I"⟩
abbrev cX4_without : ByteArray := prog_1_method_26_code
def yX4_without : MethodName := ⟨RX4, "without", "(III)I"⟩
abbrev cX4_ahead : ByteArray := prog_1_method_27_code
def yX4_ahead : MethodName := ⟨RX4, "ahead", "(III)I"⟩
abbrev cX4_isDay : ByteArray := prog_1_method_28_code
def yX4_isDay : MethodName := ⟨RX4, "isDay", "(I)Z"⟩
abbrev cX4_areDays : ByteArray := prog_1_method_29_code
def yX4_areDays : MethodName := ⟨RX4, "areDays", "(II)Z"⟩
abbrev cX4_canBeAtFirst : ByteArray := prog_1_method_30_code
def yX4_canBeAtFirst : MethodName := ⟨RX4, "canBeAtFirst", "(I)Z"⟩
abbrev cX4_canBeSetting : ByteArray := prog_1_method_31_code
def yX4_canBeSetting : MethodName := ⟨RX4, "canBeSetting", "(II)Z"⟩
abbrev cX4_countNumber : ByteArray := prog_1_method_32_code
def yX4_countNumber : MethodName := ⟨RX4, "countNumber", "(I)I"⟩
abbrev cX4_remember : ByteArray := prog_1_method_33_code
def yX4_remember : MethodName := ⟨RX4, "remember", "()V"⟩
abbrev cX4_formAsTold : ByteArray := prog_1_method_34_code
def yX4_formAsTold : MethodName := ⟨RX4, "formAsTold", "(II)I"⟩
abbrev cX4_greatestBeside : ByteArray := prog_1_method_35_code
def yX4_greatestBeside : MethodName := ⟨RX4, "greatestBeside", "(I)I"⟩
def RX5 : String := "TrainingBookModel"
def TX5 : u_T := fun k => match k with
  | 0 => ("TrainingBookModel", "thrown", "I", false)
  | 1 => ("TrainingBookModel", "now", "[I", true)
  | 2 => ("TrainingBookModel", "kept", "[I", true)
  | 3 => ("TrainingBookModel", "aside", "[I", true)
  | 4 => ("TrainingBookModel", "keeps", "I", false)
  | 5 => ("TrainingBookModel", "tape", "[B", true)
  | 6 => ("TrainingBookModel", "taped", "I", false)
  | 7 => ("TrainingBookModel", "fault", "I", false)
  | 8 => ("TrainingBookModel", "length", "I", false)
  | 9 => ("TrainingBookModel", "at", "I", false)
  | 10 => ("TrainingBookModel", "from", "I", false)
  | 11 => ("TrainingBookModel", "row", "[I", true)
  | 12 => ("TrainingBookModel", "begins", "[I", true)
  | 13 => ("TrainingBookModel", "times", "[I", true)
  | 14 => ("TrainingBookModel", "many", "I", false)
  | 15 => ("TrainingBookModel", "open", "I", false)
  | 16 => ("TrainingBookModel", "room", "I", false)
  | 17 => ("TrainingBookModel", "load", "[I", true)
  | 18 => ("TrainingBookModel", "fit", "[I", true)
  | 19 => ("TrainingBookModel", "tired", "[I", true)
  | 20 => ("TrainingBookModel", "sums", "[I", true)
  | 21 => ("TrainingBookModel", "hurt", "[Z", true)
  | 22 => ("TrainingBookModel", "injured", "[Z", true)
  | 23 => ("TrainingBookModel", "noCamp", "I", false)
  | 24 => ("TrainingBookModel", "otherDay", "I", false)
  | 25 => ("TrainingBookModel", "otherLoad", "I", false)
  | _ => ("TrainingBookModel", "were", "[I", true)
def tyX5 : Nat → FieldType := fun k => match k with
  | 0 => .int
  | 1 => .array .int
  | 2 => .array .int
  | 3 => .array .int
  | 4 => .int
  | 5 => .array .byte
  | 6 => .int
  | 7 => .int
  | 8 => .int
  | 9 => .int
  | 10 => .int
  | 11 => .array .int
  | 12 => .array .int
  | 13 => .array .int
  | 14 => .int
  | 15 => .int
  | 16 => .int
  | 17 => .array .int
  | 18 => .array .int
  | 19 => .array .int
  | 20 => .array .int
  | 21 => .array .boolean
  | 22 => .array .boolean
  | 23 => .int
  | 24 => .int
  | 25 => .int
  | _ => .array .int
abbrev wsX50 : List Cond := u_ws RX5 TX5 27
theorem nmX5 : ∀ a, a < 27 → ∀ b, b < 27 → a ≠ b → (TX5 a).2.1 ≠ (TX5 b).2.1 := by decide +kernel
theorem tyX5_ok : ∀ k, k < 27 → parseFieldDescriptor (TX5 k).2.2.1 = some (tyX5 k) := by decide +kernel
abbrev cX5_init : ByteArray := prog_7_method_1_code
def yX5_init : MethodName := ⟨RX5, "<init>", "()V"⟩
abbrev cX5_thrown : ByteArray := prog_7_method_2_code
def yX5_thrown : MethodName := ⟨RX5, "thrown", "()I"⟩
abbrev cX5_isIn : ByteArray := prog_7_method_3_code
def yX5_isIn : MethodName := ⟨RX5, "isIn", "(III)Z"⟩
abbrev cX5_of : ByteArray := prog_7_method_4_code
def yX5_of : MethodName := ⟨RX5, "of", "(I)I"⟩
abbrev cX5_groups : ByteArray := prog_7_method_5_code
def yX5_groups : MethodName := ⟨RX5, "groups", "()I"⟩
abbrev cX5_camps : ByteArray := prog_7_method_6_code
def yX5_camps : MethodName := ⟨RX5, "camps", "()I"⟩
abbrev cX5_kindOf : ByteArray := prog_7_method_7_code
def yX5_kindOf : MethodName := ⟨RX5, "kindOf", "(II)I"⟩
abbrev cX5_isGroup : ByteArray := prog_7_method_8_code
def yX5_isGroup : MethodName := ⟨RX5, "isGroup", "(I)Z"⟩
abbrev cX5_isDay : ByteArray := prog_7_method_9_code
def yX5_isDay : MethodName := ⟨RX5, "isDay", "(I)Z"⟩
abbrev cX5_isOne : ByteArray := prog_7_method_10_code
def yX5_isOne : MethodName := ⟨RX5, "isOne", "(II)Z"⟩
abbrev cX5_areDays : ByteArray := prog_7_method_11_code
def yX5_areDays : MethodName := ⟨RX5, "areDays", "(III)Z"⟩
abbrev cX5_keeps : ByteArray := prog_7_method_12_code
def yX5_keeps : MethodName := ⟨RX5, "keeps", "([I)V"⟩
abbrev cX5_maySet : ByteArray := prog_7_method_13_code
def yX5_maySet : MethodName := ⟨RX5, "maySet", "(II)Z"⟩
abbrev cX5_comes : ByteArray := prog_7_method_14_code
def yX5_comes : MethodName := ⟨RX5, "comes", "(II)V"⟩
abbrev cX5_campComes : ByteArray := prog_7_method_15_code
def yX5_campComes : MethodName := ⟨RX5, "campComes", "(II)V"⟩
abbrev cX5_group : ByteArray := prog_7_method_16_code
def yX5_group : MethodName := ⟨RX5, "group", "(II)I"⟩
abbrev cX5_load : ByteArray := prog_7_method_17_code
def yX5_load : MethodName := ⟨RX5, "load", "(II)Z"⟩
abbrev cX5_set : ByteArray := prog_7_method_18_code
def yX5_set : MethodName := ⟨RX5, "set", "(II)Z"⟩
abbrev cX5_camp : ByteArray := prog_7_method_19_code
def yX5_camp : MethodName := ⟨RX5, "camp", "(II)I"⟩
abbrev cX5_strikes : ByteArray := prog_7_method_20_code
def yX5_strikes : MethodName := ⟨RX5, "strikes", "(I)V"⟩
abbrev cX5_strike : ByteArray := prog_7_method_21_code
def yX5_strike : MethodName := ⟨RX5, "strike", "(I)I"⟩
abbrev cX5_plan : ByteArray := prog_7_method_22_code
def yX5_plan : MethodName := ⟨RX5, "plan", "(IIII)I"⟩
abbrev cX5_undo : ByteArray := prog_7_method_23_code
def yX5_undo : MethodName := ⟨RX5, "undo", "()I"⟩
abbrev cX5_count : ByteArray := prog_7_method_24_code
def yX5_count : MethodName := ⟨RX5, "count", "(I)I"⟩
abbrev cX5_camped : ByteArray := prog_7_method_25_code
def yX5_camped : MethodName := ⟨RX5, "camped", "(IZ)I"⟩
abbrev cX5_put : ByteArray := prog_7_method_26_code
def yX5_put : MethodName := ⟨RX5, "put", "(I)V"⟩
abbrev cX5_feed : ByteArray := prog_7_method_27_code
def yX5_feed : MethodName := ⟨RX5, "feed", "(IIIII)I"⟩
abbrev cX5_end : ByteArray := prog_7_method_28_code
def yX5_end : MethodName := ⟨RX5, "end", "(I)Z"⟩
abbrev cX5_here : ByteArray := prog_7_method_29_code
def yX5_here : MethodName := ⟨RX5, "here", "()I"⟩
abbrev cX5_fails : ByteArray := prog_7_method_30_code
def yX5_fails : MethodName := ⟨RX5, "fails", "(II)V"⟩
abbrev cX5_isNumber : ByteArray := prog_7_method_31_code
def yX5_isNumber : MethodName := ⟨RX5, "isNumber", "()Z"⟩
abbrev cX5_number : ByteArray := prog_7_method_32_code
def yX5_number : MethodName := ⟨RX5, "number", "(II)I"⟩
abbrev cX5_word : ByteArray := prog_7_method_33_code
def yX5_word : MethodName := ⟨RX5, "word", "()I"⟩
abbrev cX5_letters : ByteArray := prog_7_method_34_code
def yX5_letters : MethodName := ⟨RX5, "letters", "(IIIIII)I"⟩
abbrev cX5_kindBy : ByteArray := prog_7_method_35_code
def yX5_kindBy : MethodName := ⟨RX5, "kindBy", "(I)I"⟩
abbrev cX5_named : ByteArray := prog_7_method_36_code
def yX5_named : MethodName := ⟨RX5, "named", "(II)V"⟩
abbrev cX5_closes : ByteArray := prog_7_method_37_code
def yX5_closes : MethodName := ⟨RX5, "closes", "()V"⟩
abbrev cX5_item : ByteArray := prog_7_method_38_code
def yX5_item : MethodName := ⟨RX5, "item", "()V"⟩
abbrev cX5_planTold : ByteArray := prog_7_method_39_code
def yX5_planTold : MethodName := ⟨RX5, "planTold", "()V"⟩
abbrev cX5_statement : ByteArray := prog_7_method_40_code
def yX5_statement : MethodName := ⟨RX5, "statement", "()V"⟩
abbrev cX5_tell : ByteArray := prog_7_method_41_code
def yX5_tell : MethodName := ⟨RX5, "tell", "()I"⟩
abbrev cX5_fault : ByteArray := prog_7_method_42_code
def yX5_fault : MethodName := ⟨RX5, "fault", "()I"⟩
abbrev cX5_isCamp : ByteArray := prog_7_method_43_code
def yX5_isCamp : MethodName := ⟨RX5, "isCamp", "(I)Z"⟩
abbrev cX5_acute : ByteArray := prog_7_method_44_code
def yX5_acute : MethodName := ⟨RX5, "acute", "(I)I"⟩
abbrev cX5_chronic : ByteArray := prog_7_method_45_code
def yX5_chronic : MethodName := ⟨RX5, "chronic", "(I)I"⟩
abbrev cX5_goes : ByteArray := prog_7_method_46_code
def yX5_goes : MethodName := ⟨RX5, "goes", "(II)V"⟩
abbrev cX5_formAt : ByteArray := prog_7_method_47_code
def yX5_formAt : MethodName := ⟨RX5, "formAt", "(I)I"⟩
abbrev cX5_formOf : ByteArray := prog_7_method_48_code
def yX5_formOf : MethodName := ⟨RX5, "formOf", "(II)I"⟩
abbrev cX5_day : ByteArray := prog_7_method_49_code
def yX5_day : MethodName := ⟨RX5, "day", "(III)I"⟩
abbrev cX5_form : ByteArray := prog_7_method_50_code
def yX5_form : MethodName := ⟨RX5, "form", "(II)I"⟩
abbrev cX5_week : ByteArray := prog_7_method_51_code
def yX5_week : MethodName := ⟨RX5, "week", "(II)I"⟩
abbrev cX5_injured : ByteArray := prog_7_method_52_code
def yX5_injured : MethodName := ⟨RX5, "injured", "(III)I"⟩
abbrev cX5_peak : ByteArray := prog_7_method_53_code
def yX5_peak : MethodName := ⟨RX5, "peak", "(III)I"⟩
abbrev cX5_remembers : ByteArray := prog_7_method_54_code
def yX5_remembers : MethodName := ⟨RX5, "remembers", "(I)V"⟩
abbrev cX5_comesBack : ByteArray := prog_7_method_55_code
def yX5_comesBack : MethodName := ⟨RX5, "comesBack", "(I)V"⟩
abbrev cX5_taper : ByteArray := prog_7_method_56_code
def yX5_taper : MethodName := ⟨RX5, "taper", "(II)I"⟩
abbrev cX5_isHale : ByteArray := prog_7_method_57_code
def yX5_isHale : MethodName := ⟨RX5, "isHale", "(II)Z"⟩
abbrev cX5_best : ByteArray := prog_7_method_58_code
def yX5_best : MethodName := ⟨RX5, "best", "(IIII)I"⟩
abbrev cX5_team : ByteArray := prog_7_method_59_code
def yX5_team : MethodName := ⟨RX5, "team", "(II)I"⟩
abbrev cX5_safe : ByteArray := prog_7_method_60_code
def yX5_safe : MethodName := ⟨RX5, "safe", "(II)I"⟩
abbrev cX5_row : ByteArray := prog_7_method_61_code
def yX5_row : MethodName := ⟨RX5, "row", "(III)I"⟩
abbrev cX5_swap : ByteArray := prog_7_method_62_code
def yX5_swap : MethodName := ⟨RX5, "swap", "(IIII)I"⟩
abbrev cX5_without : ByteArray := prog_7_method_63_code
def yX5_without : MethodName := ⟨RX5, "without", "(III)I"⟩
abbrev cX5_ahead : ByteArray := prog_7_method_64_code
def yX5_ahead : MethodName := ⟨RX5, "ahead", "(III)I"⟩
def RL : String := "TrainingBookLaw"
abbrev cL_camped : ByteArray := method_3_code
def yL_camped : MethodName := ⟨RL, "camped", "(LTrainingBook;IZ[J)I"⟩
abbrev cL_law : ByteArray := code
def yL_law : MethodName := ⟨RL, "law", "([I)Z"⟩
abbrev mCl : List vw_C := [(RX0, TX0, 12), (RX1, TX1, 6), (RX2, TX2, 9), (RX3, TX3, 9), (RX4, TX4, 8), (RX5, TX5, 27)]
end
section
/-! ===== the small machine: its tables (methods, fields, calls by pool entries) ===== -/
/-- a method: its name, bytes, number of locals, result, class (by number), number of parameters -/
abbrev mI : Type := MethodName × ByteArray × Nat × Option FieldType × Nat × Nat
def mX0_init : mI := (yX0_init, cX0_init, 1, none, 0, 0)
def mX0_follow : mI := (yX0_follow, cX0_follow, 6, none, 0, 4)
def mX0_pitch : mI := (yX0_pitch, cX0_pitch, 4, none, 0, 2)
def mX0_live : mI := (yX0_live, cX0_live, 4, none, 0, 2)
def mX0_liveDay : mI := (yX0_liveDay, cX0_liveDay, 4, none, 0, 2)
def mX0_held : mI := (yX0_held, cX0_held, 5, some .int, 0, 2)
def mX0_decayed : mI := (yX0_decayed, cX0_decayed, 2, some .int, 0, 2)
def mX0_isHurt : mI := (yX0_isHurt, cX0_isHurt, 2, some .boolean, 0, 1)
def mX0_isTooMuch : mI := (yX0_isTooMuch, cX0_isTooMuch, 2, some .boolean, 0, 1)
def mX0_acute : mI := (yX0_acute, cX0_acute, 2, some .int, 0, 1)
def mX0_chronic : mI := (yX0_chronic, cX0_chronic, 2, some .int, 0, 1)
def mX0_formOf : mI := (yX0_formOf, cX0_formOf, 2, some .int, 0, 1)
def mX0_tryRows : mI := (yX0_tryRows, cX0_tryRows, 6, none, 0, 3)
def mX0_keepIfBetter : mI := (yX0_keepIfBetter, cX0_keepIfBetter, 3, none, 0, 2)
def mX1_init : mI := (yX1_init, cX1_init, 1, none, 1, 0)
def mX1_append : mI := (yX1_append, cX1_append, 3, none, 1, 1)
def mX1_split : mI := (yX1_split, cX1_split, 4, none, 1, 0)
def mX1_note : mI := (yX1_note, cX1_note, 4, none, 1, 3)
def mX1_endOfWord : mI := (yX1_endOfWord, cX1_endOfWord, 3, some .int, 1, 1)
def mX1_endOfInt : mI := (yX1_endOfInt, cX1_endOfInt, 3, some .int, 1, 1)
def mX1_wordAt : mI := (yX1_wordAt, cX1_wordAt, 4, some .int, 1, 2)
def mX1_isTextAt : mI := (yX1_isTextAt, cX1_isTextAt, 5, some .boolean, 1, 3)
def mX1_numberAt : mI := (yX1_numberAt, cX1_numberAt, 5, some .int, 1, 2)
def mX1_isLetter : mI := (yX1_isLetter, cX1_isLetter, 1, some .boolean, 1, 1)
def mX1_isDigit : mI := (yX1_isDigit, cX1_isDigit, 1, some .boolean, 1, 1)
def mX1_isBlank : mI := (yX1_isBlank, cX1_isBlank, 1, some .boolean, 1, 1)
def mX1_signOf : mI := (yX1_signOf, cX1_signOf, 1, some .int, 1, 1)
def mX1_textOf : mI := (yX1_textOf, cX1_textOf, 1, some (.object "java/lang/String"), 1, 1)
def mX2_init : mI := (yX2_init, cX2_init, 1, none, 2, 0)
def mX2_readText : mI := (yX2_readText, cX2_readText, 3, some .int, 2, 1)
def mX2_readStatement : mI := (yX2_readStatement, cX2_readStatement, 1, some .boolean, 2, 0)
def mX2_readGroup : mI := (yX2_readGroup, cX2_readGroup, 3, some .boolean, 2, 0)
def mX2_readLoad : mI := (yX2_readLoad, cX2_readLoad, 3, some .boolean, 2, 0)
def mX2_readCamp : mI := (yX2_readCamp, cX2_readCamp, 3, some .boolean, 2, 0)
def mX2_readSetting : mI := (yX2_readSetting, cX2_readSetting, 3, some .boolean, 2, 0)
def mX2_readPlan : mI := (yX2_readPlan, cX2_readPlan, 3, some .boolean, 2, 0)
def mX2_openAgain : mI := (yX2_openAgain, cX2_openAgain, 2, some .boolean, 2, 0)
def mX2_closeAgain : mI := (yX2_closeAgain, cX2_closeAgain, 4, some .boolean, 2, 0)
def mX2_readDays : mI := (yX2_readDays, cX2_readDays, 3, some .boolean, 2, 0)
def mX2_token : mI := (yX2_token, cX2_token, 1, some .int, 2, 0)
def mX2_step : mI := (yX2_step, cX2_step, 1, none, 2, 0)
def mX2_take : mI := (yX2_take, cX2_take, 2, some .boolean, 2, 1)
def mX2_takeInt : mI := (yX2_takeInt, cX2_takeInt, 4, some .int, 2, 2)
def mX2_fail : mI := (yX2_fail, cX2_fail, 2, some .boolean, 2, 1)
def mX3_init : mI := (yX3_init, cX3_init, 1, none, 3, 0)
def mX3_copyFrom : mI := (yX3_copyFrom, cX3_copyFrom, 2, none, 3, 1)
def mX3_hasGroup : mI := (yX3_hasGroup, cX3_hasGroup, 2, some .boolean, 3, 1)
def mX3_hasCamp : mI := (yX3_hasCamp, cX3_hasCamp, 2, some .boolean, 3, 1)
def mX3_addGroup : mI := (yX3_addGroup, cX3_addGroup, 3, none, 3, 2)
def mX3_addCamp : mI := (yX3_addCamp, cX3_addCamp, 3, none, 3, 2)
def mX3_dropCamp : mI := (yX3_dropCamp, cX3_dropCamp, 3, none, 3, 1)
def mX3_countOthers : mI := (yX3_countOthers, cX3_countOthers, 7, some .int, 3, 4)
def mX3_fillKinds : mI := (yX3_fillKinds, cX3_fillKinds, 6, none, 3, 4)
def mX3_repeatKinds : mI := (yX3_repeatKinds, cX3_repeatKinds, 6, none, 3, 4)
def mX4_init : mI := (yX4_init, cX4_init, 2, none, 4, 0)
def mX4_feed : mI := (yX4_feed, cX4_feed, 7, some .int, 4, 5)
def mX4_end : mI := (yX4_end, cX4_end, 2, some .boolean, 4, 1)
def mX4_tell : mI := (yX4_tell, cX4_tell, 2, some .int, 4, 0)
def mX4_fault : mI := (yX4_fault, cX4_fault, 1, some .int, 4, 0)
def mX4_group : mI := (yX4_group, cX4_group, 3, some .int, 4, 2)
def mX4_load : mI := (yX4_load, cX4_load, 3, some .boolean, 4, 2)
def mX4_set : mI := (yX4_set, cX4_set, 3, some .boolean, 4, 2)
def mX4_camp : mI := (yX4_camp, cX4_camp, 3, some .int, 4, 2)
def mX4_strike : mI := (yX4_strike, cX4_strike, 2, some .int, 4, 1)
def mX4_plan : mI := (yX4_plan, cX4_plan, 6, some .int, 4, 4)
def mX4_undo : mI := (yX4_undo, cX4_undo, 1, some .int, 4, 0)
def mX4_count : mI := (yX4_count, cX4_count, 2, some .int, 4, 1)
def mX4_camped : mI := (yX4_camped, cX4_camped, 3, some .int, 4, 2)
def mX4_day : mI := (yX4_day, cX4_day, 4, some .int, 4, 3)
def mX4_form : mI := (yX4_form, cX4_form, 3, some .int, 4, 2)
def mX4_week : mI := (yX4_week, cX4_week, 4, some .int, 4, 2)
def mX4_injured : mI := (yX4_injured, cX4_injured, 6, some .int, 4, 3)
def mX4_peak : mI := (yX4_peak, cX4_peak, 6, some .int, 4, 3)
def mX4_taper : mI := (yX4_taper, cX4_taper, 7, some .int, 4, 2)
def mX4_best : mI := (yX4_best, cX4_best, 5, some .int, 4, 4)
def mX4_team : mI := (yX4_team, cX4_team, 5, some .int, 4, 2)
def mX4_safe : mI := (yX4_safe, cX4_safe, 4, some .int, 4, 2)
def mX4_row : mI := (yX4_row, cX4_row, 7, some .int, 4, 3)
def mX4_swap : mI := (yX4_swap, cX4_swap, 7, some .int, 4, 4)
def mX4_without : mI := (yX4_without, cX4_without, 5, some .int, 4, 3)
def mX4_ahead : mI := (yX4_ahead, cX4_ahead, 5, some .int, 4, 3)
def mX4_isDay : mI := (yX4_isDay, cX4_isDay, 1, some .boolean, 4, 1)
def mX4_areDays : mI := (yX4_areDays, cX4_areDays, 2, some .boolean, 4, 2)
def mX4_canBeAtFirst : mI := (yX4_canBeAtFirst, cX4_canBeAtFirst, 1, some .boolean, 4, 1)
def mX4_canBeSetting : mI := (yX4_canBeSetting, cX4_canBeSetting, 2, some .boolean, 4, 2)
def mX4_countNumber : mI := (yX4_countNumber, cX4_countNumber, 2, some .int, 4, 1)
def mX4_remember : mI := (yX4_remember, cX4_remember, 1, none, 4, 0)
def mX4_formAsTold : mI := (yX4_formAsTold, cX4_formAsTold, 3, some .int, 4, 2)
def mX4_greatestBeside : mI := (yX4_greatestBeside, cX4_greatestBeside, 5, some .int, 4, 1)
def mX5_init : mI := (yX5_init, cX5_init, 3, none, 5, 0)
def mX5_thrown : mI := (yX5_thrown, cX5_thrown, 1, some .int, 5, 0)
def mX5_isIn : mI := (yX5_isIn, cX5_isIn, 3, some .boolean, 5, 3)
def mX5_of : mI := (yX5_of, cX5_of, 2, some .int, 5, 1)
def mX5_groups : mI := (yX5_groups, cX5_groups, 1, some .int, 5, 0)
def mX5_camps : mI := (yX5_camps, cX5_camps, 1, some .int, 5, 0)
def mX5_kindOf : mI := (yX5_kindOf, cX5_kindOf, 3, some .int, 5, 2)
def mX5_isGroup : mI := (yX5_isGroup, cX5_isGroup, 2, some .boolean, 5, 1)
def mX5_isDay : mI := (yX5_isDay, cX5_isDay, 1, some .boolean, 5, 1)
def mX5_isOne : mI := (yX5_isOne, cX5_isOne, 3, some .boolean, 5, 2)
def mX5_areDays : mI := (yX5_areDays, cX5_areDays, 4, some .boolean, 5, 3)
def mX5_keeps : mI := (yX5_keeps, cX5_keeps, 3, none, 5, 1)
def mX5_maySet : mI := (yX5_maySet, cX5_maySet, 2, some .boolean, 5, 2)
def mX5_comes : mI := (yX5_comes, cX5_comes, 5, none, 5, 2)
def mX5_campComes : mI := (yX5_campComes, cX5_campComes, 3, none, 5, 2)
def mX5_group : mI := (yX5_group, cX5_group, 3, some .int, 5, 2)
def mX5_load : mI := (yX5_load, cX5_load, 3, some .boolean, 5, 2)
def mX5_set : mI := (yX5_set, cX5_set, 3, some .boolean, 5, 2)
def mX5_camp : mI := (yX5_camp, cX5_camp, 3, some .int, 5, 2)
def mX5_strikes : mI := (yX5_strikes, cX5_strikes, 3, none, 5, 1)
def mX5_strike : mI := (yX5_strike, cX5_strike, 2, some .int, 5, 1)
def mX5_plan : mI := (yX5_plan, cX5_plan, 7, some .int, 5, 4)
def mX5_undo : mI := (yX5_undo, cX5_undo, 2, some .int, 5, 0)
def mX5_count : mI := (yX5_count, cX5_count, 2, some .int, 5, 1)
def mX5_camped : mI := (yX5_camped, cX5_camped, 3, some .int, 5, 2)
def mX5_put : mI := (yX5_put, cX5_put, 3, none, 5, 1)
def mX5_feed : mI := (yX5_feed, cX5_feed, 6, some .int, 5, 5)
def mX5_end : mI := (yX5_end, cX5_end, 2, some .boolean, 5, 1)
def mX5_here : mI := (yX5_here, cX5_here, 1, some .int, 5, 0)
def mX5_fails : mI := (yX5_fails, cX5_fails, 3, none, 5, 2)
def mX5_isNumber : mI := (yX5_isNumber, cX5_isNumber, 1, some .boolean, 5, 0)
def mX5_number : mI := (yX5_number, cX5_number, 5, some .int, 5, 2)
def mX5_word : mI := (yX5_word, cX5_word, 2, some .int, 5, 0)
def mX5_letters : mI := (yX5_letters, cX5_letters, 6, some .int, 5, 6)
def mX5_kindBy : mI := (yX5_kindBy, cX5_kindBy, 1, some .int, 5, 1)
def mX5_named : mI := (yX5_named, cX5_named, 4, none, 5, 2)
def mX5_closes : mI := (yX5_closes, cX5_closes, 4, none, 5, 0)
def mX5_item : mI := (yX5_item, cX5_item, 6, none, 5, 0)
def mX5_planTold : mI := (yX5_planTold, cX5_planTold, 4, none, 5, 0)
def mX5_statement : mI := (yX5_statement, cX5_statement, 4, none, 5, 0)
def mX5_tell : mI := (yX5_tell, cX5_tell, 3, some .int, 5, 0)
def mX5_fault : mI := (yX5_fault, cX5_fault, 1, some .int, 5, 0)
def mX5_isCamp : mI := (yX5_isCamp, cX5_isCamp, 3, some .boolean, 5, 1)
def mX5_acute : mI := (yX5_acute, cX5_acute, 2, some .int, 5, 1)
def mX5_chronic : mI := (yX5_chronic, cX5_chronic, 2, some .int, 5, 1)
def mX5_goes : mI := (yX5_goes, cX5_goes, 9, none, 5, 2)
def mX5_formAt : mI := (yX5_formAt, cX5_formAt, 2, some .int, 5, 1)
def mX5_formOf : mI := (yX5_formOf, cX5_formOf, 3, some .int, 5, 2)
def mX5_day : mI := (yX5_day, cX5_day, 4, some .int, 5, 3)
def mX5_form : mI := (yX5_form, cX5_form, 3, some .int, 5, 2)
def mX5_week : mI := (yX5_week, cX5_week, 3, some .int, 5, 2)
def mX5_injured : mI := (yX5_injured, cX5_injured, 6, some .int, 5, 3)
def mX5_peak : mI := (yX5_peak, cX5_peak, 6, some .int, 5, 3)
def mX5_remembers : mI := (yX5_remembers, cX5_remembers, 3, none, 5, 1)
def mX5_comesBack : mI := (yX5_comesBack, cX5_comesBack, 3, none, 5, 1)
def mX5_taper : mI := (yX5_taper, cX5_taper, 7, some .int, 5, 2)
def mX5_isHale : mI := (yX5_isHale, cX5_isHale, 4, some .boolean, 5, 2)
def mX5_best : mI := (yX5_best, cX5_best, 13, some .int, 5, 4)
def mX5_team : mI := (yX5_team, cX5_team, 7, some .int, 5, 2)
def mX5_safe : mI := (yX5_safe, cX5_safe, 3, some .int, 5, 2)
def mX5_row : mI := (yX5_row, cX5_row, 7, some .int, 5, 3)
def mX5_swap : mI := (yX5_swap, cX5_swap, 7, some .int, 5, 4)
def mX5_without : mI := (yX5_without, cX5_without, 6, some .int, 5, 3)
def mX5_ahead : mI := (yX5_ahead, cX5_ahead, 5, some .int, 5, 3)
def mL_camped : mI := (yL_camped, cL_camped, 5, some .int, 6, 4)
def mL_law : mI := (yL_law, cL_law, 7, some .boolean, 6, 1)
def mOwn : List String := [RX0, RX1, RX2, RX3, RX4, RX5, RL]
/-- fields: pool entry, class, place, of a nest mate -/
def mFl : Nat → List (Nat × Nat × Nat × Bool) := fun o => match o with
  | 0 => [(68, 3, 1, true), (71, 3, 2, true), (53, 3, 3, true), (54, 3, 4, true), (58, 3, 5, true), (61, 3, 6, true), (52, 3, 7, true), (43, 3, 8, true), (9, 0, 0, false), (15, 0, 1, false), (18, 0, 2, false), (21, 0, 3, false), (25, 0, 4, false), (28, 0, 5, false), (31, 0, 6, false), (34, 0, 7, false), (37, 0, 8, false), (40, 0, 9, false), (119, 0, 10, false), (122, 0, 11, false)]
  | 1 => [(9, 1, 0, false), (25, 1, 1, false), (15, 1, 2, false), (19, 1, 3, false), (22, 1, 4, false), (29, 1, 5, false)]
  | 2 => [(73, 3, 0, true), (90, 3, 4, true), (87, 3, 7, true), (102, 3, 8, true), (130, 1, 2, true), (139, 1, 3, true), (136, 1, 4, true), (133, 1, 5, true), (12, 2, 0, false), (21, 2, 1, false), (36, 2, 2, false), (40, 2, 3, false), (105, 2, 4, false), (108, 2, 5, false), (111, 2, 6, false), (25, 2, 7, false), (29, 2, 8, false)]
  | 3 => [(33, 3, 0, false), (9, 3, 1, false), (15, 3, 2, false), (18, 3, 3, false), (43, 3, 4, false), (21, 3, 5, false), (24, 3, 6, false), (27, 3, 7, false), (30, 3, 8, false)]
  | 4 => [(79, 3, 0, true), (99, 3, 4, true), (142, 3, 5, true), (139, 3, 6, true), (86, 3, 7, true), (93, 3, 8, true), (45, 1, 1, true), (41, 2, 0, true), (65, 2, 1, true), (72, 2, 3, true), (152, 0, 2, true), (155, 0, 4, true), (156, 0, 5, true), (159, 0, 6, true), (180, 0, 7, true), (165, 0, 9, true), (194, 0, 10, true), (197, 0, 11, true), (10, 4, 0, false), (16, 4, 1, false), (122, 4, 2, false), (125, 4, 3, false), (23, 4, 4, false), (30, 4, 5, false), (34, 4, 6, false), (37, 4, 7, false)]
  | 5 => [(61, 5, 0, false), (7, 5, 1, false), (13, 5, 2, false), (16, 5, 3, false), (83, 5, 4, false), (19, 5, 5, false), (117, 5, 6, false), (129, 5, 7, false), (126, 5, 8, false), (123, 5, 9, false), (139, 5, 10, false), (23, 5, 11, false), (26, 5, 12, false), (29, 5, 13, false), (149, 5, 14, false), (155, 5, 15, false), (152, 5, 16, false), (32, 5, 17, false), (35, 5, 18, false), (38, 5, 19, false), (41, 5, 20, false), (44, 5, 21, false), (48, 5, 22, false), (51, 5, 23, false), (55, 5, 24, false), (182, 5, 25, false), (58, 5, 26, false)]
  | _ => []
/-- calls: pool entry, kind (0 static, 1 virtual, 2 init; 4, 5 of a nest mate), method -/
def mCa : Nat → List (Nat × Nat × mI) := fun o => match o with
  | 0 => [(64, 1, mX0_pitch), (74, 1, mX0_live), (77, 1, mX0_liveDay), (80, 1, mX0_isHurt), (84, 1, mX0_held), (88, 0, mX0_decayed), (91, 1, mX0_isTooMuch), (99, 1, mX0_acute), (103, 1, mX0_chronic), (109, 1, mX0_keepIfBetter), (116, 1, mX0_formOf), (112, 1, mX0_tryRows)]
  | 1 => [(32, 0, mX1_isLetter), (36, 1, mX1_endOfWord), (40, 1, mX1_wordAt), (63, 0, mX1_textOf), (67, 1, mX1_isTextAt), (44, 1, mX1_note), (48, 0, mX1_isDigit), (51, 1, mX1_endOfInt), (54, 1, mX1_numberAt), (57, 0, mX1_isBlank), (60, 0, mX1_signOf)]
  | 2 => [(11, 5, mX1_init), (20, 5, mX3_init), (32, 4, mX3_copyFrom), (43, 1, mX2_token), (47, 1, mX2_readStatement), (55, 1, mX2_readGroup), (70, 1, mX2_fail), (76, 1, mX2_step), (79, 1, mX2_takeInt), (83, 4, mX3_addGroup), (58, 1, mX2_readLoad), (61, 1, mX2_readCamp), (93, 4, mX3_addCamp), (64, 1, mX2_readSetting), (67, 1, mX2_readPlan), (114, 1, mX2_openAgain), (51, 1, mX2_take), (117, 1, mX2_closeAgain), (123, 4, mX3_repeatKinds), (120, 1, mX2_readDays), (127, 4, mX3_fillKinds)]
  | 3 => []
  | 4 => [(9, 5, mX3_init), (22, 5, mX2_init), (29, 5, mX0_init), (51, 4, mX1_append), (55, 4, mX1_split), (58, 4, mX2_readText), (62, 1, mX4_remember), (68, 4, mX3_copyFrom), (75, 0, mX4_canBeAtFirst), (82, 4, mX3_addGroup), (89, 0, mX4_canBeSetting), (96, 0, mX4_areDays), (145, 0, mX4_isDay), (102, 4, mX3_addCamp), (105, 4, mX3_hasCamp), (108, 4, mX3_dropCamp), (111, 4, mX3_hasGroup), (114, 4, mX3_countOthers), (118, 4, mX3_fillKinds), (128, 1, mX4_countNumber), (148, 4, mX0_follow), (162, 4, mX0_isHurt), (169, 4, mX0_acute), (172, 4, mX0_chronic), (176, 1, mX4_formAsTold), (183, 4, mX0_formOf), (191, 4, mX0_live), (200, 4, mX0_tryRows), (204, 1, mX4_greatestBeside), (207, 4, mX0_liveDay)]
  | 5 => [(68, 0, mX5_isIn), (64, 1, mX5_groups), (89, 1, mX5_keeps), (92, 1, mX5_comes), (96, 0, mX5_maySet), (99, 1, mX5_of), (76, 0, mX5_isDay), (86, 1, mX5_camps), (103, 1, mX5_campComes), (106, 1, mX5_strikes), (110, 1, mX5_areDays), (79, 1, mX5_isOne), (72, 1, mX5_isGroup), (113, 1, mX5_kindOf), (120, 1, mX5_put), (132, 1, mX5_here), (179, 1, mX5_statement), (161, 1, mX5_word), (145, 0, mX5_letters), (142, 1, mX5_fails), (158, 1, mX5_number), (135, 1, mX5_isNumber), (164, 0, mX5_kindBy), (176, 1, mX5_planTold), (170, 1, mX5_closes), (173, 1, mX5_item), (167, 1, mX5_named), (194, 1, mX5_goes), (185, 1, mX5_isCamp), (188, 1, mX5_acute), (191, 1, mX5_chronic), (200, 1, mX5_formOf), (197, 1, mX5_formAt), (204, 1, mX5_remembers), (207, 1, mX5_comesBack), (210, 1, mX5_isHale)]
  | 6 => [(15, 2, mX4_init), (19, 1, mX4_feed), (24, 1, mX4_end), (29, 1, mX4_tell), (34, 1, mX4_fault), (38, 1, mX4_group), (43, 1, mX4_load), (48, 1, mX4_set), (52, 1, mX4_camp), (56, 1, mX4_strike), (61, 1, mX4_plan), (66, 1, mX4_undo), (70, 1, mX4_count), (83, 1, mX4_day), (88, 1, mX4_form), (92, 1, mX4_week), (96, 1, mX4_injured), (100, 1, mX4_peak), (104, 1, mX4_taper), (108, 1, mX4_best), (112, 1, mX4_team), (116, 1, mX4_safe), (120, 1, mX4_row), (124, 1, mX4_swap), (128, 1, mX4_without), (132, 1, mX4_ahead), (7, 1, mX4_camped), (18, 2, mX5_init), (80, 1, mX5_thrown), (42, 1, mX5_group), (47, 1, mX5_load), (51, 1, mX5_set), (55, 1, mX5_camp), (60, 1, mX5_strike), (65, 1, mX5_plan), (69, 1, mX5_undo), (73, 1, mX5_count), (79, 1, mX5_camped), (23, 1, mX5_feed), (28, 1, mX5_end), (33, 1, mX5_tell), (37, 1, mX5_fault), (87, 1, mX5_day), (91, 1, mX5_form), (95, 1, mX5_week), (99, 1, mX5_injured), (103, 1, mX5_peak), (107, 1, mX5_taper), (111, 1, mX5_best), (115, 1, mX5_team), (119, 1, mX5_safe), (123, 1, mX5_row), (127, 1, mX5_swap), (131, 1, mX5_without), (135, 1, mX5_ahead)]
  | _ => []
/-- the library: pool entry, 0 Object.<init>, 1 min, 2 max, 3 arraycopy -/
def mLi : Nat → List (Nat × Nat) := fun o => match o with
  | 0 => [(3, 0), (46, 3), (94, 1), (106, 2)]
  | 1 => [(3, 0)]
  | 2 => [(3, 0)]
  | 3 => [(3, 0), (37, 3)]
  | 4 => [(1, 0), (186, 1), (210, 2)]
  | 5 => [(1, 0)]
  | _ => []
def mCo : Nat → List (Nat × Int32) := fun o => match o with
  | 4 => [(175, -1000000000)]
  | 5 => [(203, -1000000000)]
  | _ => []
/-- classes to be made (or arrays of them): pool entry, class -/
def mNw : Nat → List (Nat × Nat) := fun o => match o with
  | 2 => [(9, 1), (18, 3)]
  | 4 => [(7, 3), (20, 2), (27, 0)]
  | 6 => [(8, 4), (16, 5)]
  | _ => []
/-- the two static rows: pool entry, which, of a nest mate -/
def mGs : Nat → List (Nat × Nat × Bool) := fun o => match o with
  | 2 => [(96, 0, true), (99, 1, true)]
  | 4 => [(213, 0, false), (216, 1, false)]
  | _ => []
end
section
/-! ===== BEGIN words of one list among another's, by their places ===== -/
theorem goodIn_r {big : List Cond} (ws : List Cond) (ps : List Nat) (hp : ws = ps.filterMap (fun i => big[i]?)) (h : ws.all goodWord = true) : GoodIn big ws := by
  intro w hw
  have h1 := List.all_eq_true.mp h w hw
  rw [hp] at hw
  obtain ⟨i, -, hi⟩ := List.mem_filterMap.mp hw
  have hm : w ∈ big := by first | exact List.mem_of_getElem? hi | exact List.getElem?_mem hi
  exact ⟨hm, good_of_word h1⟩
theorem goodIn_app {big a b : List Cond} (ha : GoodIn big a) (hb : GoodIn big b) : GoodIn big (a ++ b) := fun w h => (List.mem_append.mp h).elim (ha w) (hb w)
theorem goodIn_ca {big a b : List Cond} {c : Cond} (ha : GoodIn big (c :: a)) (hb : GoodIn big b) : GoodIn big (c :: (a ++ b)) := fun w h => (List.mem_cons.mp h).elim (fun e => ha w (List.mem_cons.mpr (Or.inl e))) (fun h => (List.mem_append.mp h).elim (fun h => ha w (List.mem_cons.mpr (Or.inr h))) (hb w))
theorem goodIn_sub {big ws : List Cond} (hm : ∀ w ∈ ws, w ∈ big) (h : ws.all goodWord = true) : GoodIn big ws := fun w hw => ⟨hm w hw, good_of_word (List.all_eq_true.mp h w hw)⟩
/-! ===== END ===== -/

/-! ===== BEGIN exceptions that leave a method, and their catching by the caller (launches without stack traces) ===== -/
section VXA
/-! The laws vx_back, vx_callV, vx_callS, vx_callSW, vx_throw0, vx_throwS follow proofs of the library, with one case more: JvmDerived/Free/Laws.lean (Back.of_free), Shelf42/LK1.lean (callV, callS), Shelf/KitTraced.lean (throwNew0V, throwNewS). -/
/-- where a method has thrown q: the class by its name, the cell, what was written, the world -/
def vx_T (XC : String → State → State → Prop) (st : State) (q : Addr) (t : State) (mc ms : Nat) (free : Addr → Prop) : Prop :=
  ∃ (E : String) (ce : Cell) (L : List Loc), XC E st t ∧ t.heap[q]? = some ce ∧ ce.vm = .none ∧ st.vm.findClass E = some ce.cls ∧ st.WarmedH t.vm ∧ st.sameButNew ({ t with vm := st.vm } : State) L mc ms ∧ ∀ z ∈ L, free z.base
def vx_Q (Qc : Array Value → State → Outcome → State → Prop) (XC : String → State → State → Prop) (mc ms : Nat) (free : Addr → Prop) : Array Value → State → Outcome → State → Prop := fun a st o t =>
  (Qc a st o t ∧ ∃ L, FrameEnd st o t L mc ms ∧ ∀ q ∈ L, free q.base) ∨ ∃ q, o = .threw q ∧ vx_T XC st q t mc ms free
/-- a callee that returns or throws -/
def vx_Met (l : Launch) (y : MethodName) (ws : List Cond) (rm : Room) (Pc : Array Value → State → Prop) (Qc : Array Value → State → Outcome → State → Prop) (XC : String → State → State → Prop) (mc ms : Nat) (free : Addr → Prop) : Prop :=
  MetFree l y (headSpec ws rm) Pc (fun _ _ _ _ _ => True) (vx_Q Qc XC mc ms free)
def vx_Post (XC : String → State → State → Prop) (mc ms : Nat) (free : Addr → Prop) : Pt → Array Value → Addr → Pt → Prop := fun A a q B =>
  ∃ (g : JFrame) (mk : MethodId) (t : State) (L : List Loc) (E : String) (ce : Cell), B.U.heap = t.heap ∧ B.U.vm = t.vm ∧ XC E (A.U.calling g mk a) t ∧ t.heap[q]? = some ce ∧ ce.vm = .none ∧ A.U.vm.findClass E = some ce.cls ∧ B.locs = A.locs ++ L ∧ (∀ z ∈ L, free z.base) ∧ B.cells = A.cells + mc ∧ B.slots = A.slots + ms
def vx_Back (l : Launch) (R : Room) (p : Program) (e : Env) (below : List Frame) (s : State) (sargs : Array Value) (y : MethodName) (len W9 : Nat)
    (Pre : Pt → Array Value → Prop) (Post : Pt → Array Value → Option Value → Pt → Prop) (PostX : Pt → Array Value → Addr → Pt → Prop) : Prop :=
  ∀ (m : MethodId) (meth : Method) (c : Code) (A : Pt) (g : JFrame) (ig : Instr) (mk : MethodId) (a : Array Value),
    Stand p l e R s m sargs below meth c A.U A.locs A.cells A.slots → g.method = m → g.locals.size = c.maxLocals → decode c.code g.pc = .ok (ig, len) →
    2 * g.monitorRoom + (g.stack.map fun v => v.category).sum ≤ W9 → A.U.methodNamed? y = some mk → Pre A a →
    (∃ (v : Option Value) (B : Pt), Stand p l e R s m sargs below meth c B.U B.locs B.cells B.slots ∧ Post A a v B ∧
      Steps p.tables e below (doInvoke e (A.U.setTop g) [] mk a).1 (B.U.setTop { g with pc := g.pc + len, stack := v.toList ++ g.stack })) ∨
    (∃ (q : Addr) (B : Pt), Stand p l e R s m sargs below meth c B.U B.locs B.cells B.slots ∧ PostX A a q B ∧
      Steps p.tables e below (doInvoke e (A.U.setTop g) [] mk a).1 ((B.U.setTop g).pushFrame (.throwing q)))
section Payer
variable {l : Launch} {R : Room} {p : Program} {e : Env} {below : List Frame} {s : State} {sargs : Array Value} {y : MethodName} {len W9 : Nat}
theorem vx_back {ws : List Cond} {rm : Room} {Pc : Array Value → State → Prop} {Qc : Array Value → State → Outcome → State → Prop} {XC : String → State → State → Prop} {mc ms : Nat} {free : Addr → Prop} {bytes : ByteArray} {maxL : Nat} {ret : Option FieldType}
    (hM : vx_Met l y ws rm Pc Qc XC mc ms free) (hblind : FrameBlind Pc) (hrc : rm.cells = mc) (hrs : rm.slots = ms)
    (hframes : rm.frames + 1 ≤ R.frames) (hlocals : W9 + (maxL + 11) + rm.locals ≤ R.locals)
    (hws : ∀ w ∈ ws, ∀ a' U, s.WarmedH U.vm → w.before a' U = true) (hcode : Cond.code y bytes maxL ret ∈ ws) (hinit : ∀ a' U, s.WarmedH U.vm → (Cond.initialized y.cls).before a' U = true) :
    vx_Back l R p e below s sargs y len W9 (PreOf R mc ms Pc) (PostOf Qc mc ms free) (vx_Post XC mc ms free) := by
  intro m meth c A g ig mk a X hg hsize hdg hW hn hp
  have h1 : (headSpec ws rm).pre.before a A.U = true := atoms_intro fun w hw => hws w hw _ _ X.warmed
  have h2 : (Cond.code y bytes maxL ret).before a A.U = true := hws _ hcode _ _ X.warmed
  have h3 : (Cond.initialized y.cls).before a A.U = true := hinit _ _ X.warmed
  have h4 : A.cells + (headSpec ws rm).room.cells ≤ R.cells := by rw [show (headSpec ws rm).room.cells = mc from hrc]; exact hp.1
  have h5 : A.slots + (headSpec ws rm).room.slots ≤ R.slots := by rw [show (headSpec ws rm).room.slots = ms from hrs]; exact hp.2.1
  have hPc : Pc a (A.U.calling g mk a) := hblind _ _ _ _ hp.2.2
  obtain ⟨U, Ls, c0, s0⟩ := A
  dsimp only [Pt.U, Pt.locs, Pt.cells, Pt.slots] at h1 h2 h3 h4 h5 X hn hPc ⊢
  obtain ⟨methY, cY, hmY, hcY, -, hlY, -, -, -, -⟩ := Cond.code_spec hn h2
  obtain ⟨kY, hkY, -⟩ := className_of_methodNamed hn
  have hinitY : kY.init = .initialized := Cond.initialized_spec (findClass_of_methodNamed hn) hkY h3
  have h : At U g.method c below := by rw [hg]; exact X.here
  have hlocals9 : W9 + (maxL + 11) + (headSpec ws rm).room.locals ≤ R.locals := hlocals
  have happ : (headSpec ws rm).appliesLoose y e.platform (U.calling g mk a) = true :=
    Spec.appliesLoose_calling (g := g) h hdg hn hkY hinitY
      (X.room_calling (g := g) (R' := (headSpec ws rm).room) hsize hmY hcY hframes (by rw [hlY]; omega) h4 h5) h1
  obtain ⟨mid, hmid⟩ := h.above
  have hfr : (U.setTop g).frames = (.java g :: mid) ++ below := by rw [State.frames_setTop' g h.top, hmid]; rfl
  obtain ⟨o, s₂, hsteps, -, hend, hq⟩ := Steps.callFree hM p X.admits X.cas X.clock (acts := []) hfr happ hPc trivial
  have hq' : vx_Q Qc XC mc ms free a (U.calling g mk a) o s₂ := hq
  rw [State.frames_setTop' g h.top] at hend
  obtain ⟨g₀, hg0⟩ := Option.isSome_iff_exists.mp h.top
  obtain ⟨r, hr⟩ := State.topJava?_eq_some.mp hg0
  have hr' : (({ U with heap := s₂.heap, slotsUsed := s₂.slotsUsed } : State).setVm s₂.vm).frames = .java g₀ :: r := hr
  rcases hq' with ⟨hqc, L, hfe, hL⟩ | ⟨q, rfl, E, ce, L, hx, hce, hcv, hcl, hW₂, hsm, hL⟩
  · obtain ⟨⟨v, rfl⟩, hW₂, e2, q2, q3, q4, q5, q6⟩ := id hfe
    have e3 : s₂ = ({ (U.calling g mk a).setFrames s₂.frames with heap := s₂.heap, slotsUsed := s₂.slotsUsed } : State).setVm s₂.vm := by
      have : s₂ = ({ s₂ with vm := (U.calling g mk a).vm } : State).setVm s₂.vm := rfl
      rw [e2] at this
      exact this
    obtain ⟨c₂, i₂, len₂, hc₂, hd₂, hf₂⟩ := hend
    have hW' : U.WarmedH s₂.vm := hW₂
    have hcc : c₂ = c := by
      have h1 : s₂.code? g.method = U.code? g.method := by
        rw [State.code?_eq, State.code?_eq, hW'.alike.method?]
      exact Option.some.inj (hc₂.symm.trans (h1.trans h.code))
    subst hcc
    have hlen : len₂ = len := by rw [hdg] at hd₂; cases hd₂; rfl
    subst hlen
    have hs₂ : s₂ = (({ U with heap := s₂.heap, slotsUsed := s₂.slotsUsed } : State).setVm s₂.vm).setTop { g with pc := g.pc + len₂, stack := v.toList ++ g.stack } := by
      refine e3.trans ?_
      rw [hf₂, State.calling_eq h.top, State.setFrames_setFrames, State.setTop_of_frames _ hr', hr]
      rfl
    have hsame : U.sameButNew ({ U with heap := s₂.heap, slotsUsed := s₂.slotsUsed } : State) L mc ms := by
      refine ⟨?_, q2, q3, q4, q5, q6⟩
      obtain ⟨t, ht, -⟩ := State.frames_cons hr
      show ({ U with heap := s₂.heap, slotsUsed := s₂.slotsUsed } : State) = { U.setFrames U.frames with heap := s₂.heap, slotsUsed := s₂.slotsUsed }
      rw [State.setFrames_self ht]
    subst hg
    refine Or.inl ⟨v, ⟨(({ U with heap := s₂.heap, slotsUsed := s₂.slotsUsed } : State).setVm s₂.vm), Ls ++ L, c0 + mc, s0 + ms⟩,
      ⟨X.admits, X.cas, X.clock, X.frames, X.room, X.hears, X.method, X.code, (X.here.setHeapUsed s₂.heap s₂.slotsUsed).setVm hW'.alike, X.tail, State.WarmedH.trans X.warmed hW', X.limits, X.bytes, X.same.trans (hsame.setVm s.vm)⟩,
      ⟨g, mk, s₂, L, rfl, rfl, hqc, rfl, hL, rfl, rfl⟩, ?_⟩
    show Steps p.tables e below _ ((({ U with heap := s₂.heap, slotsUsed := s₂.slotsUsed } : State).setVm s₂.vm).setTop { g with pc := g.pc + len₂, stack := v.toList ++ g.stack })
    rw [← hs₂]
    exact hsteps
  · obtain ⟨e2, q2, q3, q4, q5, q6⟩ := id hsm
    have e3 : s₂ = ({ (U.calling g mk a).setFrames s₂.frames with heap := s₂.heap, slotsUsed := s₂.slotsUsed } : State).setVm s₂.vm := by
      have : s₂ = ({ s₂ with vm := (U.calling g mk a).vm } : State).setVm s₂.vm := rfl
      rw [e2] at this
      exact this
    have hf₂ : s₂.frames = .throwing q :: .java g :: U.frames.tail := hend
    have hW' : U.WarmedH s₂.vm := hW₂
    have hs₂ : s₂ = ((({ U with heap := s₂.heap, slotsUsed := s₂.slotsUsed } : State).setVm s₂.vm).setTop g).pushFrame (.throwing q) := by
      refine e3.trans ?_
      rw [hf₂, State.calling_eq h.top, State.setFrames_setFrames, State.pushFrame, State.frames_setTop _ hr', State.setTop_of_frames _ hr', State.setFrames_setFrames, hr]
      rfl
    have hsame : U.sameButNew ({ U with heap := s₂.heap, slotsUsed := s₂.slotsUsed } : State) L mc ms := by
      refine ⟨?_, q2, q3, q4, q5, q6⟩
      obtain ⟨t, ht, -⟩ := State.frames_cons hr
      show ({ U with heap := s₂.heap, slotsUsed := s₂.slotsUsed } : State) = { U.setFrames U.frames with heap := s₂.heap, slotsUsed := s₂.slotsUsed }
      rw [State.setFrames_self ht]
    subst hg
    refine Or.inr ⟨q, ⟨(({ U with heap := s₂.heap, slotsUsed := s₂.slotsUsed } : State).setVm s₂.vm), Ls ++ L, c0 + mc, s0 + ms⟩,
      ⟨X.admits, X.cas, X.clock, X.frames, X.room, X.hears, X.method, X.code, (X.here.setHeapUsed s₂.heap s₂.slotsUsed).setVm hW'.alike, X.tail, State.WarmedH.trans X.warmed hW', X.limits, X.bytes, X.same.trans (hsame.setVm s.vm)⟩,
      ⟨g, mk, s₂, L, E, ce, rfl, rfl, hx, hce, hcv, hcl, rfl, hL, rfl, rfl⟩, ?_⟩
    show Steps p.tables e below _ (((({ U with heap := s₂.heap, slotsUsed := s₂.slotsUsed } : State).setVm s₂.vm).setTop g).pushFrame (.throwing q))
    rw [← hs₂]
    exact hsteps
end Payer
section Calls
variable {p : Program} {l : Launch} {e : Env} {R : Room} {s : State} {m : MethodId} {args : Array Value} {below : List Frame} {meth : Method} {c : Code} {T : State} {locs : List Loc} {cells slots : Nat}
theorem vx_callV (X : Stand p l e R s m args below meth c T locs cells slots) (hexec : p.tables.exec = Jvm.exec) {own C : String} {index : Nat} {y : MethodName} {bytes : ByteArray} {maxL : Nat} {ret : Option FieldType}
    (hown : s.vm.findClass own = some m.cls) (hlink : (Cond.methodLink own index y).before args s = true) (hinst : (Cond.instanceMethod y).before args s = true) (hsel : (Cond.selects C y y).before args s = true)
    (hcode : (Cond.code y bytes maxL ret).before args s = true) (hy : y.cls ≠ "java/lang/invoke/MethodHandle" ∧ y.cls ≠ "java/lang/invoke/VarHandle")
    {W9 : Nat} {Pre : Pt → Array Value → Prop} {Post : Pt → Array Value → Option Value → Pt → Prop} {PostX : Pt → Array Value → Addr → Pt → Prop} (hK : vx_Back l R p e below s args y 3 W9 Pre Post PostX)
    {b : Addr} {cellB : Cell} (hcell : T.heap[b]? = some cellB) (hobj : cellB.vm.isStatics = false) (hcls : s.vm.findClass C = some cellB.cls)
    {g : JFrame} (hg : g.method = m) (hsize : g.locals.size = c.maxLocals) {argsL rest : List Value} (hlen : ∀ sig, parseMethodDescriptor y.desc = some sig → argsL.length = sig.parameters.length)
    (hstack : g.stack = argsL.reverse ++ .ref b :: rest) (hW : 2 * g.monitorRoom + (rest.map fun v => v.category).sum ≤ W9) (hdg : decode c.code g.pc = .ok (.invokevirtual index, 3))
    (hpre : ∀ vm₁, s.WarmedH vm₁ → Pre ⟨T.setVm vm₁, locs, cells, slots⟩ (Value.ref b :: argsL).toArray) :
    (∃ (v : Option Value) (vm₁ : Vm) (B : Pt), s.WarmedH vm₁ ∧ Stand p l e R s m args below meth c B.U B.locs B.cells B.slots ∧ Post ⟨T.setVm vm₁, locs, cells, slots⟩ (Value.ref b :: argsL).toArray v B ∧
      ∀ target, Steps p.tables e below (B.U.setTop { g with pc := g.pc + 3, stack := v.toList ++ rest }) target → Steps p.tables e below (T.setTop g) target) ∨
    (∃ (q : Addr) (vm₁ : Vm) (B : Pt), s.WarmedH vm₁ ∧ Stand p l e R s m args below meth c B.U B.locs B.cells B.slots ∧ PostX ⟨T.setVm vm₁, locs, cells, slots⟩ (Value.ref b :: argsL).toArray q B ∧
      Steps p.tables e below (T.setTop g) ((B.U.setTop { g with stack := rest }).pushFrame (.throwing q))) := by
  obtain ⟨mk, methM, hnamed, hmethM, hstM, habM⟩ := Cond.instanceMethod_spec hinst
  obtain ⟨methM', cM, hmethM', -, -, -, -, -, -, hsigM⟩ := Cond.code_spec hnamed hcode
  cases hmethM.symm.trans hmethM'
  obtain ⟨c2, r2, m2, q1, q2, q3, q4, kP, hkP, hkPi⟩ := Cond.selects_spec hsel
  cases hcls.symm.trans q1
  cases (State.methodFound?_of_named hnamed hy).symm.trans q2
  cases hnamed.symm.trans q3
  have hselP : selectMethod e.platform s.vm cellB.cls mk = .method mk := by rw [Launch.admits_selectMethod X.admits]; exact q4
  obtain ⟨vm₁, X₁, hstep₁⟩ := X.invokevirtual hexec hown hlink hnamed hmethM hstM hkP hkPi hy (a := b) (cell := cellB) hcell
    (fun z h => by rw [h] at hobj; cases hobj) hselP hmethM habM hkP hkPi (g := g) hg (argsL := argsL) (rest := rest) (hlen _ hsigM) hstack hdg
  rcases hK m meth c ⟨T.setVm vm₁, locs, cells, slots⟩ { g with stack := rest } (.invokevirtual index) mk (Value.ref b :: argsL).toArray X₁ hg hsize hdg hW (X₁.named hnamed) (hpre vm₁ X₁.warmed) with ⟨v, B, X', hpost, hsteps⟩ | ⟨q, B, X', hpost, hsteps⟩
  · exact Or.inl ⟨v, vm₁, B, X₁.warmed, X', hpost, fun target h => hstep₁ _ fun acts => by rw [doInvoke_state]; exact hsteps.trans h⟩
  · exact Or.inr ⟨q, vm₁, B, X₁.warmed, X', hpost, hstep₁ _ fun acts => by rw [doInvoke_state]; exact hsteps⟩
theorem vx_callS (X : Stand p l e R s m args below meth c T locs cells slots) (hexec : p.tables.exec = Jvm.exec) {own : String} {index : Nat} {y : MethodName} {bytes : ByteArray} {maxL : Nat} {ret : Option FieldType}
    (hown : s.vm.findClass own = some m.cls) (hlink : (Cond.methodLink own index y).before args s = true) (hstat : (Cond.static y).before args s = true) (hinit : (Cond.initialized y.cls).before args s = true)
    (hcode : (Cond.code y bytes maxL ret).before args s = true) (hy : y.cls ≠ "java/lang/invoke/MethodHandle" ∧ y.cls ≠ "java/lang/invoke/VarHandle")
    {W9 : Nat} {Pre : Pt → Array Value → Prop} {Post : Pt → Array Value → Option Value → Pt → Prop} {PostX : Pt → Array Value → Addr → Pt → Prop} (hK : vx_Back l R p e below s args y 3 W9 Pre Post PostX)
    {g : JFrame} (hg : g.method = m) (hsize : g.locals.size = c.maxLocals) {argsL rest : List Value} (hlen : ∀ sig, parseMethodDescriptor y.desc = some sig → argsL.length = sig.parameters.length)
    (hstack : g.stack = argsL.reverse ++ rest) (hW : 2 * g.monitorRoom + (rest.map fun v => v.category).sum ≤ W9) (hdg : decode c.code g.pc = .ok (.invokestatic index, 3))
    (hpre : ∀ vm₁, s.WarmedH vm₁ → Pre ⟨T.setVm vm₁, locs, cells, slots⟩ argsL.toArray) :
    (∃ (v : Option Value) (vm₁ : Vm) (B : Pt), s.WarmedH vm₁ ∧ Stand p l e R s m args below meth c B.U B.locs B.cells B.slots ∧ Post ⟨T.setVm vm₁, locs, cells, slots⟩ argsL.toArray v B ∧
      ∀ target, Steps p.tables e below (B.U.setTop { g with pc := g.pc + 3, stack := v.toList ++ rest }) target → Steps p.tables e below (T.setTop g) target) ∨
    (∃ (q : Addr) (vm₁ : Vm) (B : Pt), s.WarmedH vm₁ ∧ Stand p l e R s m args below meth c B.U B.locs B.cells B.slots ∧ PostX ⟨T.setVm vm₁, locs, cells, slots⟩ argsL.toArray q B ∧
      Steps p.tables e below (T.setTop g) ((B.U.setTop { g with stack := rest }).pushFrame (.throwing q))) := by
  obtain ⟨mk, hnamed⟩ := Cond.code_named hcode
  obtain ⟨methM, cM, hmethM, -, -, -, -, -, -, hsigM⟩ := Cond.code_spec hnamed hcode
  have hstatic : methM.isStatic = true := Cond.static_spec hnamed hmethM hstat
  obtain ⟨kP, hkP, -⟩ := className_of_methodNamed hnamed
  have hinitP : kP.init = .initialized := Cond.initialized_spec (findClass_of_methodNamed hnamed) hkP hinit
  obtain ⟨vm₁, X₁, hstep₁⟩ := X.invokestatic hexec hown hlink hnamed hmethM hstatic hkP hinitP hy (g := g) hg (argsL := argsL) (rest := rest) (hlen _ hsigM) hstack hdg
  rcases hK m meth c ⟨T.setVm vm₁, locs, cells, slots⟩ { g with stack := rest } (.invokestatic index) mk argsL.toArray X₁ hg hsize hdg hW (X₁.named hnamed) (hpre vm₁ X₁.warmed) with ⟨v, B, X', hpost, hsteps⟩ | ⟨q, B, X', hpost, hsteps⟩
  · exact Or.inl ⟨v, vm₁, B, X₁.warmed, X', hpost, fun target h => hstep₁ _ fun acts => by rw [doInvoke_state]; exact hsteps.trans h⟩
  · exact Or.inr ⟨q, vm₁, B, X₁.warmed, X', hpost, hstep₁ _ fun acts => by rw [doInvoke_state]; exact hsteps⟩
end Calls
theorem vx_cls {s : State} {T : State} {vm₁ : Vm} {E : String} {k : ClassId} (hW : s.WarmedH vm₁) (h : (T.setVm vm₁).vm.findClass E = some k) : s.vm.findClass E = some k := by
  have h1 : vm₁.findClass E = some k := h
  rw [hW.alike.findClass] at h1
  exact h1
/-- the method's frame g, with q thrown over it -/
def vx_W (p : Program) (l : Launch) (e : Env) (R : Room) (s : State) (m : MethodId) (args : Array Value) (below : List Frame) (meth : Method) (c : Code) (H : Heap) (locs : List Loc) (cells slots : Nat) (Q : State → Prop) (g : JFrame) (q : Addr) : Prop :=
  ∀ T : State, T.heap = H → Stand p l e R s m args below meth c T locs cells slots → ∃ t, Steps p.tables e below ((T.setTop g).pushFrame (.throwing q)) t ∧ Q t
def vx_Run (p : Program) (l : Launch) (e : Env) (R : Room) (s : State) (m : MethodId) (args : Array Value) (below : List Frame) (meth : Method) (c : Code) (H : Heap) (locs : List Loc) (cells slots mc ms : Nat) (g : JFrame) (rest : List Value) (Qa : State → Outcome → State → Prop) (XC : String → State → State → Prop) (free : Addr → Prop) : Prop :=
  ∀ T : State, T.heap = H → Stand p l e R s m args below meth c T locs cells slots →
    (∃ (v : Option Value) (st₀ t T' : State) (L : List Loc), st₀.heap = H ∧ Stand p l e R s m args below meth c T' (locs ++ L) (cells + mc) (slots + ms) ∧ (∀ q ∈ L, free q.base) ∧ T'.heap = t.heap ∧ T'.vm = t.vm ∧ Qa st₀ (.returned v) t ∧
      Goes p e below T g T' { g with pc := g.pc + 3, stack := v.toList ++ rest }) ∨
    (∃ (q : Addr) (st₀ t T' : State) (L : List Loc) (E : String) (ce : Cell), st₀.heap = H ∧ Stand p l e R s m args below meth c T' (locs ++ L) (cells + mc) (slots + ms) ∧ (∀ z ∈ L, free z.base) ∧ T'.heap = t.heap ∧ T'.vm = t.vm ∧ XC E st₀ t ∧ t.heap[q]? = some ce ∧ ce.vm = .none ∧ s.vm.findClass E = some ce.cls ∧
      Steps p.tables e below (T.setTop g) ((T'.setTop { g with stack := rest }).pushFrame (.throwing q)))
def vx_X {S : Type} (px : S → Prop) (B : String → S → State → Prop) (A : Nat → Prop) : String → State → State → Prop := fun E st t => ∃ u : S, px u ∧ B E u t ∧ va_F A st t
section Runs
variable {p : Program} {l : Launch} {e : Env} {R : Room} {s : State} {m : MethodId} {args : Array Value} {below : List Frame} {meth : Method} {c : Code} {H : Heap} {locs : List Loc} {cells slots : Nat}
variable {y : MethodName} {bytes cc : ByteArray} {maxL nL mc ms n index : Nat} {ret : Option FieldType} {ws : List Cond} {rm : Room} {Pc : Array Value → State → Prop} {Qc : Array Value → State → Outcome → State → Prop} {XC : String → State → State → Prop} {free : Addr → Prop} {Ts : List Cond} {own C : String} {b : Addr} {As rest : List Value} {g : JFrame}
theorem vx_callBack (cb : CallB R s args own index y bytes maxL ret ws rm mc ms n) (hM : vx_Met l y ws rm Pc Qc XC mc ms free) (hbl : FrameBlind Pc) : vx_Back l R p e below s args y 3 8 (PreOf R mc ms Pc) (PostOf Qc mc ms free) (vx_Post XC mc ms free) := by
  obtain ⟨hrc, hrs, hfr, hlo, hws, hcw, -, hini, -⟩ := cb
  exact vx_back (bytes := bytes) (maxL := maxL) (ret := ret) hM hbl hrc hrs hfr hlo hws hcw (fun a' U hW => word_at hW (Or.inl (by first | rfl | simp [Cond.onTables, Cond.keeps, Cond.steady])) hini)
theorem vx_runV (S : CallFix p m c cc nL s args Ts own) (hM : vx_Met l y ws rm Pc Qc XC mc ms free) (cw : CallW R s args own C index y bytes maxL ret ws rm mc ms n) (hp : PreV s H C b Pc As)
    (hg : g.method = m) (hn : As.length = n) (hsize : g.locals.size = nL) (hstack : g.stack = As.reverse ++ .ref b :: rest) (hW : 2 * g.monitorRoom + (rest.map fun v => v.category).sum ≤ 8) (hdg : decode cc g.pc = .ok (.invokevirtual index, 3)) (hf : cells + mc ≤ R.cells ∧ slots + ms ≤ R.slots) :
    vx_Run p l e R s m args below meth c H locs cells slots mc ms g rest (Qc (Value.ref b :: As).toArray) XC free := by
  have hK : vx_Back l R p e below s args y 3 8 (PreOf R mc ms Pc) (PostOf Qc mc ms free) (vx_Post XC mc ms free) := vx_callBack cw.1 hM hp.1
  obtain ⟨⟨-, -, -, -, -, -, hcode, -, hy, hlen, hl⟩, hin, hse⟩ := cw
  obtain ⟨hx, hb, hml, ho, -⟩ := S
  obtain ⟨-, ⟨cellB, hcB, hoB, hclB⟩, hPc⟩ := hp
  intro T hT X
  rcases vx_callV X hx (C := C) (bytes := bytes) (maxL := maxL) (ret := ret) ho hl hin hse hcode hy hK (by rw [hT]; exact hcB) hoB hclB hg (hsize.trans hml.symm) (argsL := As) (rest := rest) (fun sig h => hn.trans (hlen sig h)) hstack hW (by rw [hb]; exact hdg)
    (fun vm₁ hW₁ => ⟨hf.1, hf.2, hPc (T.setVm vm₁) hT hW₁⟩) with ⟨v, vm₁, ⟨U', l2, c2, s2⟩, hW₁, X', ⟨g', mk, t, L, e1, e2, hq, h1, hL, h2, h3⟩, st⟩ | ⟨q, vm₁, ⟨U', l2, c2, s2⟩, hW₁, X', ⟨g', mk, t, L, E, ce, e1, e2, hq, hce, hcv, hcl, h1, hL, h2, h3⟩, st⟩
  · dsimp only [Pt.U, Pt.locs, Pt.cells, Pt.slots] at X' e1 e2 h1 h2 h3 st
    subst h1; subst h2; subst h3
    exact Or.inl ⟨v, (T.setVm vm₁).calling g' mk (Value.ref b :: As).toArray, t, U', L, hT, X', hL, e1, e2, hq, st⟩
  · dsimp only [Pt.U, Pt.locs, Pt.cells, Pt.slots] at X' e1 e2 h1 h2 h3 st hcl
    subst h1; subst h2; subst h3
    exact Or.inr ⟨q, (T.setVm vm₁).calling g' mk (Value.ref b :: As).toArray, t, U', L, E, ce, hT, X', hL, e1, e2, hq, hce, hcv, vx_cls hW₁ hcl, st⟩
theorem vx_runS (S : CallFix p m c cc nL s args Ts own) (hM : vx_Met l y ws rm Pc Qc XC mc ms free) (cw : CallB R s args own index y bytes maxL ret ws rm mc ms n ∧ (Cond.static y).before args s = true) (hp : PreS s H Pc As)
    (hg : g.method = m) (hn : As.length = n) (hsize : g.locals.size = nL) (hstack : g.stack = As.reverse ++ rest) (hW : 2 * g.monitorRoom + (rest.map fun v => v.category).sum ≤ 8) (hdg : decode cc g.pc = .ok (.invokestatic index, 3)) (hf : cells + mc ≤ R.cells ∧ slots + ms ≤ R.slots) :
    vx_Run p l e R s m args below meth c H locs cells slots mc ms g rest (Qc As.toArray) XC free := by
  have hK : vx_Back l R p e below s args y 3 8 (PreOf R mc ms Pc) (PostOf Qc mc ms free) (vx_Post XC mc ms free) := vx_callBack cw.1 hM hp.1
  obtain ⟨⟨-, -, -, -, -, -, hcode, hini, hy, hlen, hl⟩, hstt⟩ := cw
  obtain ⟨hx, hb, hml, ho, -⟩ := S
  intro T hT X
  rcases vx_callS X hx (bytes := bytes) (maxL := maxL) (ret := ret) ho hl hstt hini hcode hy hK hg (hsize.trans hml.symm) (argsL := As) (rest := rest) (fun sig h => hn.trans (hlen sig h)) hstack hW (by rw [hb]; exact hdg)
    (fun vm₁ hW₁ => ⟨hf.1, hf.2, hp.2 (T.setVm vm₁) hT hW₁⟩) with ⟨v, vm₁, ⟨U', l2, c2, s2⟩, hW₁, X', ⟨g', mk, t, L, e1, e2, hq, h1, hL, h2, h3⟩, st⟩ | ⟨q, vm₁, ⟨U', l2, c2, s2⟩, hW₁, X', ⟨g', mk, t, L, E, ce, e1, e2, hq, hce, hcv, hcl, h1, hL, h2, h3⟩, st⟩
  · dsimp only [Pt.U, Pt.locs, Pt.cells, Pt.slots] at X' e1 e2 h1 h2 h3 st
    subst h1; subst h2; subst h3
    exact Or.inl ⟨v, (T.setVm vm₁).calling g' mk As.toArray, t, U', L, hT, X', hL, e1, e2, hq, st⟩
  · dsimp only [Pt.U, Pt.locs, Pt.cells, Pt.slots] at X' e1 e2 h1 h2 h3 st hcl
    subst h1; subst h2; subst h3
    exact Or.inr ⟨q, (T.setVm vm₁).calling g' mk As.toArray, t, U', L, E, ce, hT, X', hL, e1, e2, hq, hce, hcv, vx_cls hW₁ hcl, st⟩
end Runs
section Rows
variable {p : Program} {l : Launch} {e : Env} {R : Room} {s : State} {m : MethodId} {args : Array Value} {below : List Frame} {meth : Method} {c : Code} {H : Heap} {locs : List Loc} {cells slots : Nat} {Q : State → Prop}
variable {mc ms : Nat} {free : Addr → Prop} {A0 A1 : Nat → Prop} {H0 : Heap} {a : Array Value} {pc : Nat} {ls : Array Slot} {st0 rest : List Value}
theorem vx_keep {st₀ t T' : State} {L : List Loc} (h0 : st₀.heap = H) (e1 : T'.heap = t.heap) (hS : va_S A0 H0 H locs) (hA : ∀ q, q < H.size → A1 q → A0 q) (hf : ∀ q, free q → A0 q) (hL : ∀ q ∈ L, free q.base) (hF : va_F A1 st₀ t) :
    H.size ≤ T'.heap.size ∧ (∀ q : Nat, q < H.size → ¬ A1 q → T'.heap[q]? = H[q]?) ∧ va_S A0 H0 T'.heap (locs ++ L) := by
  obtain ⟨hz, hk⟩ := hF
  rw [h0] at hz hk
  exact ⟨by rw [e1]; exact hz, fun q h1 h2 => by rw [e1]; exact hk q h1 h2,
    ⟨Nat.le_trans hS.1 (by rw [e1]; exact hz), fun q h1 h2 => by rw [e1, hk q (Nat.lt_of_lt_of_le h1 hS.1) (fun z => h2 (hA q (Nat.lt_of_lt_of_le h1 hS.1) z))]; exact hS.2.1 q h1 h2, fun q hq => by
      rcases List.mem_append.mp hq with h | h
      · exact hS.2.2 q h
      · exact hf _ (hL q h)⟩⟩
theorem vx_calli {S SX : Type} {post : Int32 → S → Prop} {px : SX → Prop} {B : S → State → Prop} {BX : String → SX → State → Prop} {AX : Nat → Prop} (hr : vx_Run p l e R s m args below meth c H locs cells slots mc ms (F0 m pc ls st0) rest (va_Qi post B A1 a) (vx_X px BX AX) free) (hS : va_S A0 H0 H locs) (hA : ∀ q, q < H.size → A1 q → A0 q) (hf : ∀ q, free q → A0 q) (hAX : ∀ q, q < H.size → AX q → A0 q)
    (kx : ∀ (E : String) (ce : Cell) (q9 : Addr) (u : SX) (t : State) (H1 : Heap) (locs1 : List Loc), t.heap = H1 → s.vm.Alike t.vm → px u → BX E u t → H.size ≤ H1.size → (∀ q : Nat, q < H.size → ¬ AX q → H1[q]? = H[q]?) → va_S A0 H0 H1 locs1 → H1[q9]? = some ce → ce.vm = .none → s.vm.findClass E = some ce.cls → vx_W p l e R s m args below meth c H1 locs1 (cells + mc) (slots + ms) Q (F0 m pc ls rest) q9)
    (kk : ∀ (r : Int32) (u : S) (t : State) (H1 : Heap) (locs1 : List Loc), t.heap = H1 → s.vm.Alike t.vm → post r u → B u t → H.size ≤ H1.size → (∀ q : Nat, q < H.size → ¬ A1 q → H1[q]? = H[q]?) → va_S A0 H0 H1 locs1 → W p l e R s m args below meth c H1 locs1 (cells + mc) (slots + ms) Q (F0 m (pc + 3) ls (.int r :: rest))) : W p l e R s m args below meth c H locs cells slots Q (F0 m pc ls st0) := by
  intro T hT X
  rcases hr T hT X with ⟨v, st₀, t, T', L, h0, X', hL, e1, e2, ⟨⟨r, u, hv, hp, hb⟩, hF⟩, st⟩ | ⟨q, st₀, t, T', L, E, ce, h0, X', hL, e1, e2, ⟨u, hp, hb, hF⟩, hce, hcv, hcl, st⟩
  · cases hv
    obtain ⟨k1, k2, k3⟩ := vx_keep h0 e1 hS hA hf hL hF
    obtain ⟨t2, a1, b1⟩ := kk r u t T'.heap (locs ++ L) e1.symm (by rw [← e2]; exact X'.warmed.alike) hp hb k1 k2 k3 T' rfl X'
    exact ⟨t2, st t2 a1, b1⟩
  · obtain ⟨k1, k2, k3⟩ := vx_keep h0 e1 hS hAX hf hL hF
    obtain ⟨t2, a1, b1⟩ := kx E ce q u t T'.heap (locs ++ L) e1.symm (by rw [← e2]; exact X'.warmed.alike) hp hb k1 k2 k3 (by rw [e1]; exact hce) hcv hcl T' rfl X'
    exact ⟨t2, st.trans a1, b1⟩
theorem vx_calll {S SX : Type} {post : Int64 → S → Prop} {px : SX → Prop} {B : S → State → Prop} {BX : String → SX → State → Prop} {AX : Nat → Prop} (hr : vx_Run p l e R s m args below meth c H locs cells slots mc ms (F0 m pc ls st0) rest (va_Ql post B A1 a) (vx_X px BX AX) free) (hS : va_S A0 H0 H locs) (hA : ∀ q, q < H.size → A1 q → A0 q) (hf : ∀ q, free q → A0 q) (hAX : ∀ q, q < H.size → AX q → A0 q)
    (kx : ∀ (E : String) (ce : Cell) (q9 : Addr) (u : SX) (t : State) (H1 : Heap) (locs1 : List Loc), t.heap = H1 → s.vm.Alike t.vm → px u → BX E u t → H.size ≤ H1.size → (∀ q : Nat, q < H.size → ¬ AX q → H1[q]? = H[q]?) → va_S A0 H0 H1 locs1 → H1[q9]? = some ce → ce.vm = .none → s.vm.findClass E = some ce.cls → vx_W p l e R s m args below meth c H1 locs1 (cells + mc) (slots + ms) Q (F0 m pc ls rest) q9)
    (kk : ∀ (r : Int64) (u : S) (t : State) (H1 : Heap) (locs1 : List Loc), t.heap = H1 → s.vm.Alike t.vm → post r u → B u t → H.size ≤ H1.size → (∀ q : Nat, q < H.size → ¬ A1 q → H1[q]? = H[q]?) → va_S A0 H0 H1 locs1 → W p l e R s m args below meth c H1 locs1 (cells + mc) (slots + ms) Q (F0 m (pc + 3) ls (.long r :: rest))) : W p l e R s m args below meth c H locs cells slots Q (F0 m pc ls st0) := by
  intro T hT X
  rcases hr T hT X with ⟨v, st₀, t, T', L, h0, X', hL, e1, e2, ⟨⟨r, u, hv, hp, hb⟩, hF⟩, st⟩ | ⟨q, st₀, t, T', L, E, ce, h0, X', hL, e1, e2, ⟨u, hp, hb, hF⟩, hce, hcv, hcl, st⟩
  · cases hv
    obtain ⟨k1, k2, k3⟩ := vx_keep h0 e1 hS hA hf hL hF
    obtain ⟨t2, a1, b1⟩ := kk r u t T'.heap (locs ++ L) e1.symm (by rw [← e2]; exact X'.warmed.alike) hp hb k1 k2 k3 T' rfl X'
    exact ⟨t2, st t2 a1, b1⟩
  · obtain ⟨k1, k2, k3⟩ := vx_keep h0 e1 hS hAX hf hL hF
    obtain ⟨t2, a1, b1⟩ := kx E ce q u t T'.heap (locs ++ L) e1.symm (by rw [← e2]; exact X'.warmed.alike) hp hb k1 k2 k3 (by rw [e1]; exact hce) hcv hcl T' rfl X'
    exact ⟨t2, st.trans a1, b1⟩
theorem vx_callf {S SX : Type} {post : UInt32 → S → Prop} {px : SX → Prop} {B : S → State → Prop} {BX : String → SX → State → Prop} {AX : Nat → Prop} (hr : vx_Run p l e R s m args below meth c H locs cells slots mc ms (F0 m pc ls st0) rest (va_Qf post B A1 a) (vx_X px BX AX) free) (hS : va_S A0 H0 H locs) (hA : ∀ q, q < H.size → A1 q → A0 q) (hf : ∀ q, free q → A0 q) (hAX : ∀ q, q < H.size → AX q → A0 q)
    (kx : ∀ (E : String) (ce : Cell) (q9 : Addr) (u : SX) (t : State) (H1 : Heap) (locs1 : List Loc), t.heap = H1 → s.vm.Alike t.vm → px u → BX E u t → H.size ≤ H1.size → (∀ q : Nat, q < H.size → ¬ AX q → H1[q]? = H[q]?) → va_S A0 H0 H1 locs1 → H1[q9]? = some ce → ce.vm = .none → s.vm.findClass E = some ce.cls → vx_W p l e R s m args below meth c H1 locs1 (cells + mc) (slots + ms) Q (F0 m pc ls rest) q9)
    (kk : ∀ (r : UInt32) (u : S) (t : State) (H1 : Heap) (locs1 : List Loc), t.heap = H1 → s.vm.Alike t.vm → post r u → B u t → H.size ≤ H1.size → (∀ q : Nat, q < H.size → ¬ A1 q → H1[q]? = H[q]?) → va_S A0 H0 H1 locs1 → W p l e R s m args below meth c H1 locs1 (cells + mc) (slots + ms) Q (F0 m (pc + 3) ls (.float r :: rest))) : W p l e R s m args below meth c H locs cells slots Q (F0 m pc ls st0) := by
  intro T hT X
  rcases hr T hT X with ⟨v, st₀, t, T', L, h0, X', hL, e1, e2, ⟨⟨r, u, hv, hp, hb⟩, hF⟩, st⟩ | ⟨q, st₀, t, T', L, E, ce, h0, X', hL, e1, e2, ⟨u, hp, hb, hF⟩, hce, hcv, hcl, st⟩
  · cases hv
    obtain ⟨k1, k2, k3⟩ := vx_keep h0 e1 hS hA hf hL hF
    obtain ⟨t2, a1, b1⟩ := kk r u t T'.heap (locs ++ L) e1.symm (by rw [← e2]; exact X'.warmed.alike) hp hb k1 k2 k3 T' rfl X'
    exact ⟨t2, st t2 a1, b1⟩
  · obtain ⟨k1, k2, k3⟩ := vx_keep h0 e1 hS hAX hf hL hF
    obtain ⟨t2, a1, b1⟩ := kx E ce q u t T'.heap (locs ++ L) e1.symm (by rw [← e2]; exact X'.warmed.alike) hp hb k1 k2 k3 (by rw [e1]; exact hce) hcv hcl T' rfl X'
    exact ⟨t2, st.trans a1, b1⟩
theorem vx_calld {S SX : Type} {post : UInt64 → S → Prop} {px : SX → Prop} {B : S → State → Prop} {BX : String → SX → State → Prop} {AX : Nat → Prop} (hr : vx_Run p l e R s m args below meth c H locs cells slots mc ms (F0 m pc ls st0) rest (va_Qd post B A1 a) (vx_X px BX AX) free) (hS : va_S A0 H0 H locs) (hA : ∀ q, q < H.size → A1 q → A0 q) (hf : ∀ q, free q → A0 q) (hAX : ∀ q, q < H.size → AX q → A0 q)
    (kx : ∀ (E : String) (ce : Cell) (q9 : Addr) (u : SX) (t : State) (H1 : Heap) (locs1 : List Loc), t.heap = H1 → s.vm.Alike t.vm → px u → BX E u t → H.size ≤ H1.size → (∀ q : Nat, q < H.size → ¬ AX q → H1[q]? = H[q]?) → va_S A0 H0 H1 locs1 → H1[q9]? = some ce → ce.vm = .none → s.vm.findClass E = some ce.cls → vx_W p l e R s m args below meth c H1 locs1 (cells + mc) (slots + ms) Q (F0 m pc ls rest) q9)
    (kk : ∀ (r : UInt64) (u : S) (t : State) (H1 : Heap) (locs1 : List Loc), t.heap = H1 → s.vm.Alike t.vm → post r u → B u t → H.size ≤ H1.size → (∀ q : Nat, q < H.size → ¬ A1 q → H1[q]? = H[q]?) → va_S A0 H0 H1 locs1 → W p l e R s m args below meth c H1 locs1 (cells + mc) (slots + ms) Q (F0 m (pc + 3) ls (.double r :: rest))) : W p l e R s m args below meth c H locs cells slots Q (F0 m pc ls st0) := by
  intro T hT X
  rcases hr T hT X with ⟨v, st₀, t, T', L, h0, X', hL, e1, e2, ⟨⟨r, u, hv, hp, hb⟩, hF⟩, st⟩ | ⟨q, st₀, t, T', L, E, ce, h0, X', hL, e1, e2, ⟨u, hp, hb, hF⟩, hce, hcv, hcl, st⟩
  · cases hv
    obtain ⟨k1, k2, k3⟩ := vx_keep h0 e1 hS hA hf hL hF
    obtain ⟨t2, a1, b1⟩ := kk r u t T'.heap (locs ++ L) e1.symm (by rw [← e2]; exact X'.warmed.alike) hp hb k1 k2 k3 T' rfl X'
    exact ⟨t2, st t2 a1, b1⟩
  · obtain ⟨k1, k2, k3⟩ := vx_keep h0 e1 hS hAX hf hL hF
    obtain ⟨t2, a1, b1⟩ := kx E ce q u t T'.heap (locs ++ L) e1.symm (by rw [← e2]; exact X'.warmed.alike) hp hb k1 k2 k3 (by rw [e1]; exact hce) hcv hcl T' rfl X'
    exact ⟨t2, st.trans a1, b1⟩
theorem vx_callv {S SX : Type} {post : S → Prop} {px : SX → Prop} {B : S → State → Prop} {BX : String → SX → State → Prop} {AX : Nat → Prop} (hr : vx_Run p l e R s m args below meth c H locs cells slots mc ms (F0 m pc ls st0) rest (va_Qv post B A1 a) (vx_X px BX AX) free) (hS : va_S A0 H0 H locs) (hA : ∀ q, q < H.size → A1 q → A0 q) (hf : ∀ q, free q → A0 q) (hAX : ∀ q, q < H.size → AX q → A0 q)
    (kx : ∀ (E : String) (ce : Cell) (q9 : Addr) (u : SX) (t : State) (H1 : Heap) (locs1 : List Loc), t.heap = H1 → s.vm.Alike t.vm → px u → BX E u t → H.size ≤ H1.size → (∀ q : Nat, q < H.size → ¬ AX q → H1[q]? = H[q]?) → va_S A0 H0 H1 locs1 → H1[q9]? = some ce → ce.vm = .none → s.vm.findClass E = some ce.cls → vx_W p l e R s m args below meth c H1 locs1 (cells + mc) (slots + ms) Q (F0 m pc ls rest) q9)
    (kk : ∀ (u : S) (t : State) (H1 : Heap) (locs1 : List Loc), t.heap = H1 → s.vm.Alike t.vm → post u → B u t → H.size ≤ H1.size → (∀ q : Nat, q < H.size → ¬ A1 q → H1[q]? = H[q]?) → va_S A0 H0 H1 locs1 → W p l e R s m args below meth c H1 locs1 (cells + mc) (slots + ms) Q (F0 m (pc + 3) ls (rest))) : W p l e R s m args below meth c H locs cells slots Q (F0 m pc ls st0) := by
  intro T hT X
  rcases hr T hT X with ⟨v, st₀, t, T', L, h0, X', hL, e1, e2, ⟨⟨u, hv, hp, hb⟩, hF⟩, st⟩ | ⟨q, st₀, t, T', L, E, ce, h0, X', hL, e1, e2, ⟨u, hp, hb, hF⟩, hce, hcv, hcl, st⟩
  · cases hv
    obtain ⟨k1, k2, k3⟩ := vx_keep h0 e1 hS hA hf hL hF
    obtain ⟨t2, a1, b1⟩ := kk u t T'.heap (locs ++ L) e1.symm (by rw [← e2]; exact X'.warmed.alike) hp hb k1 k2 k3 T' rfl X'
    exact ⟨t2, st t2 a1, b1⟩
  · obtain ⟨k1, k2, k3⟩ := vx_keep h0 e1 hS hAX hf hL hF
    obtain ⟨t2, a1, b1⟩ := kx E ce q u t T'.heap (locs ++ L) e1.symm (by rw [← e2]; exact X'.warmed.alike) hp hb k1 k2 k3 (by rw [e1]; exact hce) hcv hcl T' rfl X'
    exact ⟨t2, st.trans a1, b1⟩
/-- caught by the row x of this method's table; the rows ahead don't take it -/
theorem vx_catch {own name : String} {E : String} {ce : Cell} {q : Addr} (hown : s.vm.findClass own = some m.cls) (pre : List ExceptionTableEntry) (x : ExceptionTableEntry) (suf : List ExceptionTableEntry) (hsplit : c.exceptionTable.toList = pre ++ x :: suf)
    (hpass : ∀ z ∈ pre, covers z pc = false ∨ (z.catchType ≠ 0 ∧ ∃ nm : String, (Cond.classLink own z.catchType nm).before args s = true ∧ va_Nc E nm s)) (hx : covers x pc = true) (h0 : x.catchType ≠ 0)
    (hlink : (Cond.classLink own x.catchType name).before args s = true) (hcast : (Cond.castable E name).before args s = true) (hcell : H[q]? = some ce) (hv : ce.vm = .none) (hcl : s.vm.findClass E = some ce.cls)
    (kk : W p l e R s m args below meth c H locs cells slots Q (F0 m x.handlerPc ls [.ref q])) : vx_W p l e R s m args below meth c H locs cells slots Q (F0 m pc ls rest) q := by
  intro T hT X
  have hpl : e.platform.magicAccessors = ({} : Platform).magicAccessors := by rw [X.admits.platform]
  obtain ⟨c3, c4, hc3, hc4, hasg⟩ := Cond.castable_spec hcast
  cases Option.some.inj (hc3.symm.trans hcl)
  obtain ⟨c5, hc5, hcl5⟩ := Cond.classLink_spec hown hlink e.platform hpl
  cases Option.some.inj (hc4.symm.trans hc5)
  obtain ⟨vm', X', st⟩ := X.thenCaughtThrough q (g := F0 m pc ls rest) rfl (Steps.refl _) (by rw [hT]; exact hcell) (by rw [hv]; rfl) (by obtain ⟨k9, h9, -⟩ := Vm.findClass_spec hcl; exact ⟨k9, h9⟩) pre x suf hsplit
    (fun z hz => by
      rcases hpass z hz with h | ⟨hz0, nm, hl1, hn1⟩
      · exact Or.inl h
      · obtain ⟨c6, hc6, hcl6⟩ := Cond.classLink_spec hown hl1 e.platform hpl
        obtain ⟨a8, b8, h1, h2, h3⟩ := hn1
        cases Option.some.inj (h1.symm.trans hcl)
        cases Option.some.inj (h2.symm.trans hc6)
        exact Or.inr ⟨hz0, _, hcl6, h3⟩) hx (Or.inr ⟨h0, c4, hcl5, hasg⟩)
  obtain ⟨t, a1, b1⟩ := kk (T.setVm vm') hT X'
  exact ⟨t, st.trans a1, b1⟩
end Rows
section Ends
variable {p : Program} {l : Launch} {e : Env} {R : Room} {s : State} {m : MethodId} {args : Array Value} {below : List Frame} {meth : Method} {c : Code} {H : Heap} {locs : List Loc} {cells slots : Nat} {Q : State → Prop}
variable {mc ms : Nat} {free : Addr → Prop} {A0 A1 : Nat → Prop} {H0 : Heap} {a : Array Value} {ls : Array Slot} {st0 rest : List Value}
variable {Qc : Array Value → State → Outcome → State → Prop} {XC : String → State → State → Prop}
/-- what a body that may throw owes at its end -/
def vx_MQ (below : List Frame) (Qc : Array Value → State → Outcome → State → Prop) (XC : String → State → State → Prop) (a : Array Value) (s : State) (mc ms : Nat) (free : Addr → Prop) : State → Prop := fun t =>
  ∃ o, t.status = .running ∧ Ended t below o ∧ vx_Q Qc XC mc ms free a s o t
theorem vx_ret {g : JFrame} {mc ms : Nat} (k : W p l e R s m args below meth c H locs cells slots (MQ below Qc args s mc ms free) g) : W p l e R s m args below meth c H locs cells slots (vx_MQ below Qc XC args s mc ms free) g := by
  intro T hT X
  obtain ⟨t, a1, o, b1, b2, b3, b4⟩ := k T hT X
  exact ⟨t, a1, o, b1, b2, Or.inl ⟨b3, b4⟩⟩
/-- not caught here: it goes on to the caller -/
theorem vx_widen {g : JFrame} {q : Addr} {k n : Nat} (h1 : cells ≤ k) (h2 : slots ≤ n) (kk : vx_W p l e R s m args below meth c H locs k n Q g q) : vx_W p l e R s m args below meth c H locs cells slots Q g q := fun T hT X => kk T hT (stand_widen X h1 h2)
theorem vx_out {pc : Nat} {E : String} {ce : Cell} {q : Addr} {mc ms : Nat} (hout : ∀ x ∈ c.exceptionTable.toList, covers x pc = false) (hlocks : meth.locks = false) (hcell : H[q]? = some ce) (hv : ce.vm = .none) (hcl : s.vm.findClass E = some ce.cls)
    (hx : ∀ t : State, t.heap = H → s.vm.Alike t.vm → XC E s t) (hf : ∀ z ∈ locs, free z.base) (hc : cells ≤ mc) (hs : slots ≤ ms) :
    vx_W p l e R s m args below meth c H locs cells slots (vx_MQ below Qc XC args s mc ms free) (F0 m pc ls rest) q := by
  intro T hT X
  obtain ⟨st1, hrun, hend, hW, hsm⟩ := X.leaveThrown q (g := F0 m pc ls rest) rfl rfl rfl hout hlocks
  have hcell9 : (T.setFrames (.throwing q :: below)).heap[q]? = some ce := by
    show T.heap[q]? = some ce
    rw [hT]; exact hcell
  exact ⟨_, st1, .threw q, hrun, hend, Or.inr ⟨q, rfl, E, ce, locs, hx _ hT hW.alike, hcell9, hv, hcl, hW, hsm.mono hc hs, hf⟩⟩
theorem vx_frame {U : State} {k n : Nat} (h : s.sameButNew ({ U with vm := s.vm } : State) locs k n) : s.heap.size ≤ U.heap.size ∧ ∀ q : Nat, q < s.heap.size → (∀ z ∈ locs, z.base ≠ q) → U.heap[q]? = s.heap[q]? := by
  obtain ⟨-, h2, -, -, -, h6⟩ := h
  refine ⟨h2, fun q hq hz => ?_⟩
  obtain ⟨c9, e1, e2, e3, e4⟩ := h6 q _ (Array.getElem?_eq_getElem hq)
  have hs : c9.slots = (s.heap[q]).slots := Array.ext_getElem? fun i => e4 i fun hm => hz _ hm rfl
  have h9 : c9 = s.heap[q] := by
    rw [hs] at e2
    exact e2
  have e5 : U.heap[q]? = some c9 := e1
  rw [e5, h9, Array.getElem?_eq_getElem hq]
/-- the words of a throw but the four that speak of the heap -/
def vx_no (w : Cond) : Bool := decide (w ≠ .isRef (.static Bundle.tN "UNASSIGNED_STACK" Bundle.steD)) && decide (w ≠ .isRef (.static Bundle.tN "SUPPRESSED_SENTINEL" Bundle.listD)) && decide (w ≠ .laysStatic Bundle.tN "UNASSIGNED_STACK" Bundle.steD) && decide (w ≠ .laysStatic Bundle.tN "SUPPRESSED_SENTINEL" Bundle.listD)
def vx_at0 (own : String) (ic : Nat) (X : String) (names : List String) : List Cond := (Bundle.ownAtoms0 own ic X names).filter vx_no
def vx_atS (own : String) (ic : Nat) (X : String) (names : List String) : List Cond := (Bundle.ownAtoms own ic X names).filter vx_no
/-- a word that the tables alone decide, or a good one -/
def vx_ot (w : Cond) : Bool := w.onTables || goodWord w
theorem vx_ot_at {args a' : Array Value} {s U : State} {w : Cond} (hW : s.WarmedH U.vm) (hvm : s.vm = U.vm) (hg : vx_ot w = true) (h : w.before args s = true) : w.before a' U = true := by
  simp only [vx_ot, Bool.or_eq_true] at hg
  rcases hg with hg | hg
  · exact va_tabs hg hvm h
  · exact word_at hW (good_of_word hg) h
/-- a list's words: the good ones out of the method's own list, the others by premises of their own -/
theorem vx_hat {args : Array Value} {s : State} {L B : List Cond} (h1 : ∀ w ∈ L.filter goodWord, w.before args s = true) (h2 : ∀ w ∈ L.filter (fun w => !goodWord w), w ∈ B) (h3 : ∀ w ∈ B, w.before args s = true) : ∀ w ∈ L, w.before args s = true := by
  intro w hw
  by_cases g : goodWord w = true
  · exact h1 w (List.mem_filter.mpr ⟨hw, g⟩)
  · refine h3 w (h2 w (List.mem_filter.mpr ⟨hw, ?_⟩))
    show (!goodWord w) = true
    cases hgw : goodWord w
    · rfl
    · exact absurd hgw g
theorem vx_c {args : Array Value} {s : State} {w : Cond} {B : List Cond} (h : w.before args s = true) (t : ∀ w ∈ B, w.before args s = true) : ∀ w' ∈ w :: B, w'.before args s = true := fun w' h' => (List.mem_cons.mp h').elim (fun e => by rw [e]; exact h) (t w')
theorem vx_n {args : Array Value} {s : State} : ∀ w ∈ ([] : List Cond), w.before args s = true := fun _ h => nomatch h
theorem vx_own {args : Array Value} {s : State} {L : List Cond} (h1 : ∀ w ∈ L.filter vx_no, w.before args s = true)
    (hU : (Cond.isRef (.static Bundle.tN "UNASSIGNED_STACK" Bundle.steD)).before args s = true) (hN : (Cond.isRef (.static Bundle.tN "SUPPRESSED_SENTINEL" Bundle.listD)).before args s = true)
    (lU : (Cond.laysStatic Bundle.tN "UNASSIGNED_STACK" Bundle.steD).before args s = true) (lN : (Cond.laysStatic Bundle.tN "SUPPRESSED_SENTINEL" Bundle.listD).before args s = true) : ∀ w ∈ L, w.before args s = true := by
  intro w hw
  by_cases e1 : w = .isRef (.static Bundle.tN "UNASSIGNED_STACK" Bundle.steD)
  · rw [e1]; exact hU
  · by_cases e2 : w = .isRef (.static Bundle.tN "SUPPRESSED_SENTINEL" Bundle.listD)
    · rw [e2]; exact hN
    · by_cases e3 : w = .laysStatic Bundle.tN "UNASSIGNED_STACK" Bundle.steD
      · rw [e3]; exact lU
      · by_cases e4 : w = .laysStatic Bundle.tN "SUPPRESSED_SENTINEL" Bundle.listD
        · rw [e4]; exact lN
        · exact h1 w (List.mem_filter.mpr ⟨hw, by unfold vx_no; rw [decide_eq_true e1, decide_eq_true e2, decide_eq_true e3, decide_eq_true e4]; rfl⟩)
/-- where a static field lies, its class's statics cell in H -/
def vx_L (C n d : String) (A : Nat → Prop) (U : State) (H : Heap) : Prop := ∃ (c : ClassId) (k : Class) (i : Nat) (f : Field) (a : Nat) (cell : Cell), U.vm.findClass C = some c ∧ U.fieldFound? C n d = some (c, k, i, f) ∧ f.isStatic = true ∧ k.statics = some a ∧ H[a]? = some cell ∧ cell.vm.isStatics = true ∧ cell.cls = c ∧ f.slot < cell.slots.size ∧ k.staticTypes[f.slot]? = some f.type ∧ ¬ A a
theorem vx_L.moved {C n d : String} {A : Nat → Prop} {u U : State} {H : Heap} (hvm : u.vm.Alike U.vm) (h : vx_L C n d A u H) : vx_L C n d A U H := by
  obtain ⟨c, k, i, f, a, cell, h1, h2, h3, h4, h5, h6, h7, h8, h9, h10⟩ := h
  obtain ⟨k', hi', he⟩ := State.fieldFound?_setVm hvm h2
  exact ⟨c, k', i, f, a, cell, by rw [hvm.findClass]; exact h1, hi', h3, by rw [he]; exact h4, h5, h6, h7, h8, by rw [he]; exact h9, h10⟩
theorem vx_L.kept {C n d : String} {A : Nat → Prop} {U : State} {H H1 : Heap} (h : vx_L C n d A U H) (hq : ∀ a : Nat, a < H.size → ¬ A a → H1[a]? = H[a]?) : vx_L C n d A U H1 := by
  obtain ⟨c, k, i, f, a, cell, h1, h2, h3, h4, h5, h6, h7, h8, h9, h10⟩ := h
  exact ⟨c, k, i, f, a, cell, h1, h2, h3, h4, by rw [hq a (Array.getElem?_eq_some_iff.mp h5).1 h10]; exact h5, h6, h7, h8, h9, h10⟩
theorem vx_L.narrow {C n d : String} {A B : Nat → Prop} {U : State} {H : Heap} (h : vx_L C n d A U H) (hAB : ∀ q, B q → A q) : vx_L C n d B U H := by
  obtain ⟨c, k, i, f, a, cell, h1, h2, h3, h4, h5, h6, h7, h8, h9, h10⟩ := h
  exact ⟨c, k, i, f, a, cell, h1, h2, h3, h4, h5, h6, h7, h8, h9, fun z => h10 (hAB _ z)⟩
theorem vx_L.word {C n d : String} {A : Nat → Prop} {s : State} {args : Array Value} (h : vx_L C n d A s s.heap) : (Cond.laysStatic C n d).before args s = true := by
  obtain ⟨c, k, i, f, a, cell, h1, h2, h3, h4, h5, h6, h7, h8, h9, -⟩ := h
  show (Cond.laysStatic C n d).holds args s none s [] = true
  exact Cond.laysStatic_of h1 h2 h3 h4 h5 h6 h7 h8 h9
/-- .. and what it holds: null or some reference -/
def vx_Zq (C n d : String) (A : Nat → Prop) (U : State) (H : Heap) : Prop := va_Zq C n d A U H ∧ vx_L C n d A U H
theorem vx_Zq.moved {C n d : String} {A : Nat → Prop} {u U : State} {H : Heap} (hvm : u.vm.Alike U.vm) (h : vx_Zq C n d A u H) : vx_Zq C n d A U H := ⟨va_Zq.moved hvm h.1, vx_L.moved hvm h.2⟩
theorem vx_Zq.kept {C n d : String} {A : Nat → Prop} {U : State} {H H1 : Heap} (h : vx_Zq C n d A U H) (hq : ∀ a : Nat, a < H.size → ¬ A a → H1[a]? = H[a]?) : vx_Zq C n d A U H1 := ⟨va_Zq.kept h.1 hq, vx_L.kept h.2 hq⟩
theorem vx_Zq.narrow {C n d : String} {A B : Nat → Prop} {U : State} {H : Heap} (h : vx_Zq C n d A U H) (hAB : ∀ q, B q → A q) : vx_Zq C n d B U H := ⟨va_Zq.narrow h.1 hAB, vx_L.narrow h.2 hAB⟩
theorem vx_Zqof {args : Array Value} {s : State} {C n d : String} {A : Nat → Prop} (hl : (Cond.laysStatic C n d).before args s = true) (hini : (Cond.initialized C).before args s = true) (h : (Cond.isRef (.static C n d)).before args s = true) (hA : ∀ a : Nat, a < s.heap.size → ¬ A a) : vx_Zq C n d A s s.heap := by
  refine ⟨va_Zqof hl hini h hA, ?_⟩
  obtain ⟨c, k, i, f, a, cell, h1, h2, h3, h4, h5, h6, h7, h8, h9⟩ := Cond.laysStatic_spec hl
  exact ⟨c, k, i, f, a, cell, h1, h2, h3, h4, h5, h6, h7, h8, h9, hA a (Array.getElem?_eq_some_iff.mp h5).1⟩
theorem vx_isRef {C n d : String} {v : Value} {A : Nat → Prop} {s : State} {args : Array Value} (h : va_Z C n d v A s s.heap) (hv : v.isRef = true) : (Cond.isRef (.static C n d)).before args s = true := by
  obtain ⟨cf, kf, fi, f, a, cell, h1, h2, h3, h4, h5, h6, h7, -⟩ := h
  have he : (Term.static C n d).eval args s none [] s = some v := by
    simp [Term.eval, State.fieldNamed?, h1, h2, h4, h5, h6, h7]
  simp only [Cond.before, Cond.holds, Cond.value, he]
  cases v <;> simp_all [Value.isRef]
theorem vx_isRefq {C n d : String} {A : Nat → Prop} {s : State} {args : Array Value} (h : va_Zq C n d A s s.heap) : (Cond.isRef (.static C n d)).before args s = true := by
  rcases h with h | ⟨t, h⟩
  · exact vx_isRef h rfl
  · exact vx_isRef h rfl
/-- the same frame, seen from here: as if the method were called anew in this heap -/
theorem vx_rebase {T : State} (X : Stand p l e R s m args below meth c T locs cells slots) {R' : Room} (hf : R'.frames ≤ R.frames) (hl : R'.locals ≤ R.locals) (hc : cells + R'.cells ≤ R.cells) (hs : slots + R'.slots ≤ R.slots) :
    Stand p l e R' ((T.setVm s.vm).setFrames (.invoking m args :: below)) m args below meth c T [] 0 0 := by
  have htop : (T.setVm s.vm).topJava?.isSome := X.here.top
  have hF : ((T.setVm s.vm).setFrames (.invoking m args :: below)).frames = .invoking m args :: below := State.frames_setFrames _ (State.cur_lt_of_top htop)
  obtain ⟨g₀, hg0⟩ := Option.isSome_iff_exists.mp htop
  obtain ⟨r, hr⟩ := State.topJava?_eq_some.mp hg0
  have hl9 : e.platform.stackLimits (T.setVm s.vm).me = e.platform.stackLimits s.me := X.limits
  have hb9 : (T.setVm s.vm).me.stackBytes = s.me.stackBytes := X.bytes
  refine ⟨X.admits, X.cas, X.clock, hF, ?_, X.hears, X.method, X.code, X.here, X.tail, X.warmed, ?_, ?_, ?_⟩
  · have h := X.room
    have hU : ((T.setVm s.vm).setFrames (.invoking m args :: below)).localsInUse = s.localsInUse := by
      rw [State.localsInUse_invoking hF (meth := meth) (c := c) X.method X.code, State.localsInUse_invoking X.frames X.method X.code]
    simp only [State.hasRoom, Bool.and_eq_true, decide_eq_true_eq] at h ⊢
    obtain ⟨⟨⟨⟨h1, h2, h3, h4, h5, h6⟩, h7⟩, h8⟩, h9⟩ := h
    rw [X.frames, List.length_cons] at h2 h3
    have q1 := X.heapSize
    have q2 := X.used
    simp only [hF, hU, List.length_cons, State.stackLimits_setFrames, State.stackBytes_setFrames, hl9, hb9]
    refine ⟨⟨⟨⟨by omega, by omega, by omega, by omega, by omega, h6⟩, ?_⟩, ?_⟩, X.book⟩
    · show T.heap.size + R'.cells ≤ e.platform.maxCells
      omega
    · show T.slotsUsed + R'.slots ≤ e.platform.maxSlots
      omega
  · rw [State.stackLimits_setFrames]; rfl
  · rw [State.stackBytes_setFrames]; rfl
  · refine ⟨?_, Nat.le_refl _, Nat.le_refl _, ?_, ?_, fun a c9 h9 => ⟨c9, h9, rfl, rfl, fun _ _ => rfl⟩⟩
    · obtain ⟨t, ht, -⟩ := State.frames_cons hr
      show T.setVm s.vm = { ((T.setVm s.vm).setFrames (.invoking m args :: below)).setFrames (T.setVm s.vm).frames with heap := T.heap, slotsUsed := T.slotsUsed }
      rw [State.setFrames_setFrames, State.setFrames_self ht]
      rfl
    · show T.slotsUsed = T.slotsUsed + ((T.heap.toList.drop T.heap.size).map (·.slots.size)).sum
      rw [List.drop_eq_nil_of_le (Nat.le_of_eq Array.length_toList)]
      rfl
    · show ((T.heap.toList.drop T.heap.size).map (·.slots.size)).sum ≤ 0
      rw [List.drop_eq_nil_of_le (Nat.le_of_eq Array.length_toList)]
      exact Nat.le_refl _
/-- 'throw new E()': new; dup; invokespecial; athrow -/
theorem vx_throw0 {cc : ByteArray} {pc : Nat} (hexec : p.tables.exec = Jvm.exec) (hb : c.code = cc) (hl : l.stackTraces = false) {own cls : String} {names : List String} {ik ic mc ms : Nat} {A : Nat → Prop}
    (hown : s.vm.findClass own = some m.cls) (hcls : Bundle.fit cls = true) (hnames : ∀ n ∈ names, Bundle.fit n = true)
    (hk : (Cond.classLink own ik cls).before args s = true) (hini : (Cond.initialized cls).before args s = true) (hat : ∀ w ∈ vx_at0 own ic cls names, w.before args s = true)
    (hgood : ∀ w ∈ Cond.classLink own ik cls :: Cond.initialized cls :: vx_at0 own ic cls names, vx_ot w = true)
    (hU : vx_Zq Bundle.tN "UNASSIGNED_STACK" Bundle.steD A s s.heap) (hN : vx_Zq Bundle.tN "SUPPRESSED_SENTINEL" Bundle.listD A s s.heap) (hS : va_S A s.heap H locs) (hsize : ls.size = c.maxLocals)
    (d0 : decode cc pc = .ok (.new ik, 3)) (d3 : decode cc (pc + 3) = .ok (.dup, 1)) (d4 : decode cc (pc + 4) = .ok (.invokespecial ic, 3)) (d7 : decode cc (pc + 7) = .ok (.athrow, 1))
    (hout : ∀ x ∈ c.exceptionTable.toList, covers x (pc + 7) = false)
    (hRframes : names.length + 3 < R.frames) (hRlocals : (rest.map fun v => v.category).sum + (13 * (names.length + 1) + 42) ≤ R.locals) (hRcells : cells + 1 ≤ R.cells) (hRslots : slots + 6 ≤ R.slots) (hlocks : meth.locks = false)
    (hx : ∀ t : State, s.vm.Alike t.vm → H.size ≤ t.heap.size → (∀ q : Nat, q < H.size → t.heap[q]? = H[q]?) → XC cls s t)
    (hf : ∀ z ∈ locs, free z.base) (hc : cells + 1 ≤ mc) (hs : slots + 6 ≤ ms) :
    W p l e R s m args below meth c H locs cells slots (vx_MQ below Qc XC args s mc ms free) (F0 m pc ls rest) := by
  intro T hT X
  have htr : e.platform.stackTraces = false := (show e.platform.stackTraces = l.stackTraces by rw [X.admits.platform]).trans hl
  have Y := vx_rebase X (R' := { frames := R.frames, locals := R.locals, cells := 1, slots := 6 }) (Nat.le_refl _) (Nat.le_refl _) hRcells hRslots
  obtain ⟨s', hA⟩ : ∃ z, z = (T.setVm s.vm).setFrames (.invoking m args :: below) := ⟨_, rfl⟩
  rw [← hA] at Y
  have hvm : s'.vm = s.vm := by rw [hA]; rfl
  have hhp : s'.heap = H := by rw [hA]; exact hT
  have hW0 : s.WarmedH s'.vm := by rw [hvm]; exact State.WarmedH.refl s
  have hat' : ∀ w ∈ vx_at0 own ic cls names, w.before args s' = true := fun w hw => vx_ot_at hW0 hvm.symm (hgood w (List.mem_cons_of_mem _ (List.mem_cons_of_mem _ hw))) (hat w hw)
  have hk' : (Cond.classLink own ik cls).before args s' = true := vx_ot_at hW0 hvm.symm (hgood _ List.mem_cons_self) hk
  have hini' : (Cond.initialized cls).before args s' = true := vx_ot_at hW0 hvm.symm (hgood _ (List.mem_cons_of_mem _ List.mem_cons_self)) hini
  have hU' : vx_Zq Bundle.tN "UNASSIGNED_STACK" Bundle.steD A s' s'.heap := by rw [hhp]; exact vx_Zq.moved hW0.alike (hU.kept hS.2.1)
  have hN' : vx_Zq Bundle.tN "SUPPRESSED_SENTINEL" Bundle.listD A s' s'.heap := by rw [hhp]; exact vx_Zq.moved hW0.alike (hN.kept hS.2.1)
  have h : ∀ w ∈ Bundle.ownAtoms0 own ic cls names, w.before args s' = true := vx_own hat' (vx_isRefq hU'.1) (vx_isRefq hN'.1) hU'.2.word hN'.2.word
  have hown' : s'.vm.findClass own = some m.cls := by rw [hvm]; exact hown
  have hins : (Cond.instantiable cls 6).before args s' = true := h _ (by simp [Bundle.ownAtoms0])
  obtain ⟨vm₁, cX, kX, hfX, hkX, -, -, X₁, st1⟩ := Y.newCold hexec (own := own) (C := cls) (index := ik) (n := 6) hown' hk' hins hini'
    (g := F0 m pc ls rest) rfl (by rw [hb]; exact d0) (Nat.le_refl _) (Nat.le_refl _)
  generalize hT1 : (T.setVm vm₁).pushCell { cls := cX, slots := kX.instanceTypes.map defaultValue, vm := .none } = T1 at X₁ st1
  have hcat : (Value.ref T.heap.size).category = 1 := rfl
  have hcellA : T1.heap[T.heap.size]? = some (freshCell cX kX) := by rw [← hT1]; exact State.heap_pushCell_size _ _
  have d3' : decode c.code (pc + 3) = .ok (.dup, 1) := by rw [hb]; exact d3
  obtain ⟨U, hsteps, hrun, hend, hW, hsame, ce, hce, hO⟩ := X₁.ctorThrow0 hexec htr (own := own) (cls := cls) (names := names) (ic := ic) hown' hcls hnames h (fun x hx => nomatch hx) hfX hkX hcellA (by rw [hhp, hT]; exact Nat.le_refl _)
    (g := { method := m, pc := pc + 4, locals := ls, stack := .ref T.heap.size :: .ref T.heap.size :: rest, locked := none }) rfl hsize rfl rfl (rest := rest) rfl
    (by rw [hb]; exact d4) (by rw [hb]; exact d7) hout hRframes (by simp only [List.map_cons, List.sum_cons, hcat]; omega) hlocks
  obtain ⟨f1, f2⟩ := vx_frame hsame
  rw [hhp] at f1 f2
  have hWs : s.WarmedH U.vm := State.WarmedH.trans hW0 hW
  have hcl : s.vm.findClass cls = some ce.cls := by
    have h9 := hO.cls
    rw [hvm] at h9
    exact h9
  have hall : s.sameButNew ({ U with vm := s.vm } : State) locs mc ms := by
    subst hA
    obtain ⟨e1, e2⟩ := hsame
    rw [State.setFrames_setFrames] at e1
    have h2 : (T.setVm s.vm).sameButNew ({ U with vm := s.vm } : State) [] (0 + 1) (0 + 6) := ⟨e1, e2⟩
    have h3 := X.same.trans h2
    rw [List.append_nil] at h3
    exact h3.mono hc hs
  refine ⟨U, ?_, .threw T.heap.size, hrun, hend, Or.inr ⟨T.heap.size, rfl, cls, ce, locs, hx U hWs.alike f1 (fun q hq => f2 q hq (fun z hz => nomatch hz)), hce, hO.vm, hcl, hWs, hall, hf⟩⟩
  refine st1 _ ?_
  show Steps p.tables e below (T1.setTop { method := m, pc := pc + 3, locals := ls, stack := .ref T.heap.size :: rest, locked := none }) _
  jvm_step X₁.here [X₁.here.top, hexec, d3', Value.category]
  exact hsteps
/-- 'throw new E("text")': new; dup; ldc; invokespecial; athrow -/
theorem vx_throwS {cc : ByteArray} {pc : Nat} (hexec : p.tables.exec = Jvm.exec) (hb : c.code = cc) (hl : l.stackTraces = false) {own cls text : String} {names : List String} {ik is ic mc ms sa : Nat} {A : Nat → Prop}
    (hown : s.vm.findClass own = some m.cls) (hcls : Bundle.fit cls = true) (hnames : ∀ n ∈ names, Bundle.fit n = true)
    (hk : (Cond.classLink own ik cls).before args s = true) (hini : (Cond.initialized cls).before args s = true) (hstr : vk_R own is text sa s) (hat : ∀ w ∈ vx_atS own ic cls names, w.before args s = true)
    (hgood : ∀ w ∈ Cond.classLink own ik cls :: Cond.initialized cls :: vx_atS own ic cls names, vx_ot w = true)
    (hU : vx_Zq Bundle.tN "UNASSIGNED_STACK" Bundle.steD A s s.heap) (hN : vx_Zq Bundle.tN "SUPPRESSED_SENTINEL" Bundle.listD A s s.heap) (hS : va_S A s.heap H locs) (hsize : ls.size = c.maxLocals)
    (d0 : decode cc pc = .ok (.new ik, 3)) (d3 : decode cc (pc + 3) = .ok (.dup, 1)) (d4 : decode cc (pc + 4) = .ok (.ldc is, 2)) (d6 : decode cc (pc + 6) = .ok (.invokespecial ic, 3)) (d9 : decode cc (pc + 9) = .ok (.athrow, 1))
    (hout : ∀ x ∈ c.exceptionTable.toList, covers x (pc + 9) = false)
    (hRframes : names.length + 3 < R.frames) (hRlocals : (rest.map fun v => v.category).sum + (13 * (names.length + 1) + 43) ≤ R.locals) (hRcells : cells + 1 ≤ R.cells) (hRslots : slots + 6 ≤ R.slots) (hlocks : meth.locks = false)
    (hx : ∀ t : State, s.vm.Alike t.vm → H.size ≤ t.heap.size → (∀ q : Nat, q < H.size → t.heap[q]? = H[q]?) → XC cls s t)
    (hf : ∀ z ∈ locs, free z.base) (hc : cells + 1 ≤ mc) (hs : slots + 6 ≤ ms) :
    W p l e R s m args below meth c H locs cells slots (vx_MQ below Qc XC args s mc ms free) (F0 m pc ls rest) := by
  intro T hT X
  have htr : e.platform.stackTraces = false := (show e.platform.stackTraces = l.stackTraces by rw [X.admits.platform]).trans hl
  have Y := vx_rebase X (R' := { frames := R.frames, locals := R.locals, cells := 1, slots := 6 }) (Nat.le_refl _) (Nat.le_refl _) hRcells hRslots
  obtain ⟨s', hA⟩ : ∃ z, z = (T.setVm s.vm).setFrames (.invoking m args :: below) := ⟨_, rfl⟩
  rw [← hA] at Y
  have hvm : s'.vm = s.vm := by rw [hA]; rfl
  have hhp : s'.heap = H := by rw [hA]; exact hT
  have hW0 : s.WarmedH s'.vm := by rw [hvm]; exact State.WarmedH.refl s
  have hat' : ∀ w ∈ vx_atS own ic cls names, w.before args s' = true := fun w hw => vx_ot_at hW0 hvm.symm (hgood w (List.mem_cons_of_mem _ (List.mem_cons_of_mem _ hw))) (hat w hw)
  have hk' : (Cond.classLink own ik cls).before args s' = true := vx_ot_at hW0 hvm.symm (hgood _ List.mem_cons_self) hk
  have hini' : (Cond.initialized cls).before args s' = true := vx_ot_at hW0 hvm.symm (hgood _ (List.mem_cons_of_mem _ List.mem_cons_self)) hini
  have hU' : vx_Zq Bundle.tN "UNASSIGNED_STACK" Bundle.steD A s' s'.heap := by rw [hhp]; exact vx_Zq.moved hW0.alike (hU.kept hS.2.1)
  have hN' : vx_Zq Bundle.tN "SUPPRESSED_SENTINEL" Bundle.listD A s' s'.heap := by rw [hhp]; exact vx_Zq.moved hW0.alike (hN.kept hS.2.1)
  have h : ∀ w ∈ Bundle.ownAtoms own ic cls names, w.before args s' = true := vx_own hat' (vx_isRefq hU'.1) (vx_isRefq hN'.1) hU'.2.word hN'.2.word
  have hown' : s'.vm.findClass own = some m.cls := by rw [hvm]; exact hown
  have hins : (Cond.instantiable cls 6).before args s' = true := h _ (by simp [Bundle.ownAtoms])
  obtain ⟨vm₁, cX, kX, hfX, hkX, -, -, X₁, st1⟩ := Y.newCold hexec (own := own) (C := cls) (index := ik) (n := 6) hown' hk' hins hini'
    (g := F0 m pc ls rest) rfl (by rw [hb]; exact d0) (Nat.le_refl _) (Nat.le_refl _)
  generalize hT1 : (T.setVm vm₁).pushCell { cls := cX, slots := kX.instanceTypes.map defaultValue, vm := .none } = T1 at X₁ st1
  have hcat : (Value.ref T.heap.size).category = 1 := rfl
  have hcellA : T1.heap[T.heap.size]? = some (freshCell cX kX) := by rw [← hT1]; exact State.heap_pushCell_size _ _
  have d3' : decode c.code (pc + 3) = .ok (.dup, 1) := by rw [hb]; exact d3
  have d4' : decode c.code (pc + 4) = .ok (.ldc is, 2) := by rw [hb]; exact d4
  have hstr' : vk_R own is text sa s' := vk_R.warm hW0 hstr
  obtain ⟨U, hsteps, hrun, hend, hW, hsame, ce, hce, hO⟩ := X₁.ctorThrowS hexec htr (own := own) (cls := cls) (names := names) (ic := ic) hown' hcls hnames h (fun x hx => nomatch hx) hfX hkX hcellA (by rw [hhp, hT]; exact Nat.le_refl _) (msg := .ref sa) rfl
    (g := { method := m, pc := pc + 6, locals := ls, stack := .ref sa :: .ref T.heap.size :: .ref T.heap.size :: rest, locked := none }) rfl hsize rfl rfl (rest := rest) rfl
    (by rw [hb]; exact d6) (by rw [hb]; exact d9) hout hRframes (by simp only [List.map_cons, List.sum_cons, hcat]; omega) hlocks
  obtain ⟨f1, f2⟩ := vx_frame hsame
  rw [hhp] at f1 f2
  have hWs : s.WarmedH U.vm := State.WarmedH.trans hW0 hW
  have hcl : s.vm.findClass cls = some ce.cls := by
    have h9 := hO.cls
    rw [hvm] at h9
    exact h9
  have hall : s.sameButNew ({ U with vm := s.vm } : State) locs mc ms := by
    subst hA
    obtain ⟨e1, e2⟩ := hsame
    rw [State.setFrames_setFrames] at e1
    have h2 : (T.setVm s.vm).sameButNew ({ U with vm := s.vm } : State) [] (0 + 1) (0 + 6) := ⟨e1, e2⟩
    have h3 := X.same.trans h2
    rw [List.append_nil] at h3
    exact h3.mono hc hs
  refine ⟨U, ?_, .threw T.heap.size, hrun, hend, Or.inr ⟨T.heap.size, rfl, cls, ce, locs, hx U hWs.alike f1 (fun q hq => f2 q hq (fun z hz => nomatch hz)), hce, hO.vm, hcl, hWs, hall, hf⟩⟩
  refine st1 _ ?_
  show Steps p.tables e below (T1.setTop { method := m, pc := pc + 3, locals := ls, stack := .ref T.heap.size :: rest, locked := none }) _
  jvm_step X₁.here [X₁.here.top, hexec, d3', Value.category]
  exact X₁.ldcString hexec (own := own) (text := text) (index := is) (a := sa) hown' hstr'.1 hstr'.2
    (g := { method := m, pc := pc + 4, locals := ls, stack := .ref T.heap.size :: .ref T.heap.size :: rest, locked := none }) rfl d4' _ hsteps
/-- 'throw new E("text")', the text by a wide index -/
theorem vx_throwSW {cc : ByteArray} {pc : Nat} (hexec : p.tables.exec = Jvm.exec) (hb : c.code = cc) (hl : l.stackTraces = false) {own cls text : String} {names : List String} {ik is ic mc ms sa : Nat} {A : Nat → Prop}
    (hown : s.vm.findClass own = some m.cls) (hcls : Bundle.fit cls = true) (hnames : ∀ n ∈ names, Bundle.fit n = true)
    (hk : (Cond.classLink own ik cls).before args s = true) (hini : (Cond.initialized cls).before args s = true) (hstr : vk_R own is text sa s) (hat : ∀ w ∈ vx_atS own ic cls names, w.before args s = true)
    (hgood : ∀ w ∈ Cond.classLink own ik cls :: Cond.initialized cls :: vx_atS own ic cls names, vx_ot w = true)
    (hU : vx_Zq Bundle.tN "UNASSIGNED_STACK" Bundle.steD A s s.heap) (hN : vx_Zq Bundle.tN "SUPPRESSED_SENTINEL" Bundle.listD A s s.heap) (hS : va_S A s.heap H locs) (hsize : ls.size = c.maxLocals)
    (d0 : decode cc pc = .ok (.new ik, 3)) (d3 : decode cc (pc + 3) = .ok (.dup, 1)) (d4 : decode cc (pc + 4) = .ok (.ldc_w is, 3)) (d7 : decode cc (pc + 7) = .ok (.invokespecial ic, 3)) (d10 : decode cc (pc + 10) = .ok (.athrow, 1))
    (hout : ∀ x ∈ c.exceptionTable.toList, covers x (pc + 10) = false)
    (hRframes : names.length + 3 < R.frames) (hRlocals : (rest.map fun v => v.category).sum + (13 * (names.length + 1) + 43) ≤ R.locals) (hRcells : cells + 1 ≤ R.cells) (hRslots : slots + 6 ≤ R.slots) (hlocks : meth.locks = false)
    (hx : ∀ t : State, s.vm.Alike t.vm → H.size ≤ t.heap.size → (∀ q : Nat, q < H.size → t.heap[q]? = H[q]?) → XC cls s t)
    (hf : ∀ z ∈ locs, free z.base) (hc : cells + 1 ≤ mc) (hs : slots + 6 ≤ ms) :
    W p l e R s m args below meth c H locs cells slots (vx_MQ below Qc XC args s mc ms free) (F0 m pc ls rest) := by
  intro T hT X
  have htr : e.platform.stackTraces = false := (show e.platform.stackTraces = l.stackTraces by rw [X.admits.platform]).trans hl
  have Y := vx_rebase X (R' := { frames := R.frames, locals := R.locals, cells := 1, slots := 6 }) (Nat.le_refl _) (Nat.le_refl _) hRcells hRslots
  obtain ⟨s', hA⟩ : ∃ z, z = (T.setVm s.vm).setFrames (.invoking m args :: below) := ⟨_, rfl⟩
  rw [← hA] at Y
  have hvm : s'.vm = s.vm := by rw [hA]; rfl
  have hhp : s'.heap = H := by rw [hA]; exact hT
  have hW0 : s.WarmedH s'.vm := by rw [hvm]; exact State.WarmedH.refl s
  have hat' : ∀ w ∈ vx_atS own ic cls names, w.before args s' = true := fun w hw => vx_ot_at hW0 hvm.symm (hgood w (List.mem_cons_of_mem _ (List.mem_cons_of_mem _ hw))) (hat w hw)
  have hk' : (Cond.classLink own ik cls).before args s' = true := vx_ot_at hW0 hvm.symm (hgood _ List.mem_cons_self) hk
  have hini' : (Cond.initialized cls).before args s' = true := vx_ot_at hW0 hvm.symm (hgood _ (List.mem_cons_of_mem _ List.mem_cons_self)) hini
  have hU' : vx_Zq Bundle.tN "UNASSIGNED_STACK" Bundle.steD A s' s'.heap := by rw [hhp]; exact vx_Zq.moved hW0.alike (hU.kept hS.2.1)
  have hN' : vx_Zq Bundle.tN "SUPPRESSED_SENTINEL" Bundle.listD A s' s'.heap := by rw [hhp]; exact vx_Zq.moved hW0.alike (hN.kept hS.2.1)
  have h : ∀ w ∈ Bundle.ownAtoms own ic cls names, w.before args s' = true := vx_own hat' (vx_isRefq hU'.1) (vx_isRefq hN'.1) hU'.2.word hN'.2.word
  have hown' : s'.vm.findClass own = some m.cls := by rw [hvm]; exact hown
  have hins : (Cond.instantiable cls 6).before args s' = true := h _ (by simp [Bundle.ownAtoms])
  obtain ⟨vm₁, cX, kX, hfX, hkX, -, -, X₁, st1⟩ := Y.newCold hexec (own := own) (C := cls) (index := ik) (n := 6) hown' hk' hins hini'
    (g := F0 m pc ls rest) rfl (by rw [hb]; exact d0) (Nat.le_refl _) (Nat.le_refl _)
  generalize hT1 : (T.setVm vm₁).pushCell { cls := cX, slots := kX.instanceTypes.map defaultValue, vm := .none } = T1 at X₁ st1
  have hcat : (Value.ref T.heap.size).category = 1 := rfl
  have hcellA : T1.heap[T.heap.size]? = some (freshCell cX kX) := by rw [← hT1]; exact State.heap_pushCell_size _ _
  have d3' : decode c.code (pc + 3) = .ok (.dup, 1) := by rw [hb]; exact d3
  have d4' : decode c.code (pc + 4) = .ok (.ldc_w is, 3) := by rw [hb]; exact d4
  have hstr' : vk_R own is text sa s' := vk_R.warm hW0 hstr
  obtain ⟨U, hsteps, hrun, hend, hW, hsame, ce, hce, hO⟩ := X₁.ctorThrowS hexec htr (own := own) (cls := cls) (names := names) (ic := ic) hown' hcls hnames h (fun x hx => nomatch hx) hfX hkX hcellA (by rw [hhp, hT]; exact Nat.le_refl _) (msg := .ref sa) rfl
    (g := { method := m, pc := pc + 7, locals := ls, stack := .ref sa :: .ref T.heap.size :: .ref T.heap.size :: rest, locked := none }) rfl hsize rfl rfl (rest := rest) rfl
    (by rw [hb]; exact d7) (by rw [hb]; exact d10) hout hRframes (by simp only [List.map_cons, List.sum_cons, hcat]; omega) hlocks
  obtain ⟨f1, f2⟩ := vx_frame hsame
  rw [hhp] at f1 f2
  have hWs : s.WarmedH U.vm := State.WarmedH.trans hW0 hW
  have hcl : s.vm.findClass cls = some ce.cls := by
    have h9 := hO.cls
    rw [hvm] at h9
    exact h9
  have hall : s.sameButNew ({ U with vm := s.vm } : State) locs mc ms := by
    subst hA
    obtain ⟨e1, e2⟩ := hsame
    rw [State.setFrames_setFrames] at e1
    have h2 : (T.setVm s.vm).sameButNew ({ U with vm := s.vm } : State) [] (0 + 1) (0 + 6) := ⟨e1, e2⟩
    have h3 := X.same.trans h2
    rw [List.append_nil] at h3
    exact h3.mono hc hs
  refine ⟨U, ?_, .threw T.heap.size, hrun, hend, Or.inr ⟨T.heap.size, rfl, cls, ce, locs, hx U hWs.alike f1 (fun q hq => f2 q hq (fun z hz => nomatch hz)), hce, hO.vm, hcl, hWs, hall, hf⟩⟩
  refine st1 _ ?_
  show Steps p.tables e below (T1.setTop { method := m, pc := pc + 3, locals := ls, stack := .ref T.heap.size :: rest, locked := none }) _
  jvm_step X₁.here [X₁.here.top, hexec, d3', Value.category]
  exact X₁.ldcStringW hexec (own := own) (text := text) (index := is) (a := sa) hown' hstr'.1 hstr'.2
    (g := { method := m, pc := pc + 4, locals := ls, stack := .ref T.heap.size :: .ref T.heap.size :: rest, locked := none }) rfl d4' _ hsteps
end Ends
section Bodies
variable {l : Launch}
theorem vx_ofW {y : MethodName} {ws ws' : List Cond} {rm : Room} {Pc : Array Value → State → Prop} {Qc : Array Value → State → Outcome → State → Prop} {XC : String → State → State → Prop} {mc ms : Nat} {free : Addr → Prop} {cc : ByteArray} {maxL : Nat} {ret : Option FieldType}
    (hy : plainName y.cls = true) (hw : ws = Cond.code y cc maxL ret :: ws')
    (body : ∀ p e s m args below meth c s₁, BodyLoose p l y (headSpec ws rm) cc maxL ret e s m args below meth c s₁ → c.maxLocals = maxL → (∀ x ∈ c.exceptionTable.toList, False) → Pc args s →
      W p l e (headSpec ws rm).room s m args below meth c s.heap [] 0 0 (vx_MQ below Qc XC args s mc ms free) (entryFrame m args maxL)) : vx_Met l y ws rm Pc Qc XC mc ms free := by
  refine MetFree.of_bodyS (code := cc) (maxLocals := maxL) (ret := ret) hy ?_ ?_
  · intro args s m h hn
    obtain ⟨meth, c, h1, h2, h3, h4, h5, h6, -, -⟩ := Cond.code_spec hn (atoms_spec (ws := ws) h _ (by rw [hw]; exact List.mem_cons_self))
    exact ⟨meth, c, h1, h2, h3, h4, h5, h6⟩
  · intro p e s m args below meth c s₁ B hml hP _
    have hh0 : s₁.heap = s.heap := by rw [B.state]; rfl
    have ht : ∀ x ∈ c.exceptionTable.toList, False := by
      obtain ⟨meth9, c9, h1, h2, -, -, -, -, h7, -⟩ := Cond.code_spec B.named (atoms_spec (ws := ws) B.pre _ (by rw [hw]; exact List.mem_cons_self))
      cases Option.some.inj (h1.symm.trans B.method)
      cases Option.some.inj (h2.symm.trans (Stand.of_body B).code)
      intro x hx
      rw [Array.isEmpty_iff.mp h7] at hx
      cases hx
    obtain ⟨t, a1, o, b1, b2, b3⟩ := body p e s m args below meth c s₁ B hml ht hP s₁ hh0 (Stand.of_body B)
    exact ⟨t, o, a1, b1, b2, b3⟩
/-- the table of a body with handlers -/
theorem vx_table {p : Program} {x y : MethodName} {S : Spec} {cc bytes : ByteArray} {maxL maxL' : Nat} {ret ret' : Option FieldType} {e : Env} {s s₁ : State} {m : MethodId} {args : Array Value} {below : List Frame} {meth : Method} {c : Code} {hh : List (Nat × Nat × Nat × Nat)}
    (B : BodyLoose p l y S cc maxL ret e s m args below meth c s₁) (h : (Cond.codeWith y bytes maxL' ret' hh).before args s = true) : c.exceptionTable.toList = tableOf hh := by
  obtain ⟨m9, meth9, c9, hn9, h1, h2, -, -, h6, -⟩ := Cond.codeWith_spec h
  cases Option.some.inj (hn9.symm.trans B.named)
  cases Option.some.inj (h1.symm.trans B.method)
  cases Option.some.inj (h2.symm.trans (Stand.of_body B).code)
  rw [← h6, table_eq]
end Bodies
end VXA
/-! ===== END ===== -/
/-! ===== BEGIN a static call of a method with an exception table ===== -/
section VXS
variable {p : Program} {l : Launch} {e : Env} {R : Room} {s : State} {m : MethodId} {args : Array Value} {below : List Frame} {meth : Method} {c : Code} {T : State} {H : Heap} {locs : List Loc} {cells slots : Nat}
abbrev vx_CSW (R : Room) (s : State) (args : Array Value) (own : String) (index : Nat) (y : MethodName) (bytes : ByteArray) (maxL : Nat) (ret : Option FieldType) (hh : List (Nat × Nat × Nat × Nat)) (ws : List Cond) (rm : Room) (mc ms n : Nat) : Prop :=
  (rm.cells = mc ∧ rm.slots = ms ∧ rm.frames + 1 ≤ R.frames ∧ 8 + (maxL + 11) + rm.locals ≤ R.locals ∧ (∀ w ∈ ws, ∀ (a' : Array Value) (U : State), s.WarmedH U.vm → w.before a' U = true) ∧ Cond.codeWith y bytes maxL ret hh ∈ ws) ∧
  (Cond.codeWith y bytes maxL ret hh).before args s = true ∧ (Cond.initialized y.cls).before args s = true ∧ (y.cls ≠ "java/lang/invoke/MethodHandle" ∧ y.cls ≠ "java/lang/invoke/VarHandle") ∧
  (∀ sig, parseMethodDescriptor y.desc = some sig → n = sig.parameters.length) ∧ (Cond.methodLink own index y).before args s = true ∧ (Cond.static y).before args s = true
theorem vx_cwSW {own : String} {index maxL mc ms : Nat} {y : MethodName} {bytes : ByteArray} {ret : Option FieldType} {hh : List (Nat × Nat × Nat × Nat)} {Ts ws ws' : List Cond} {rm : Room} (n : Nat) (ht : ∀ w ∈ Ts, w.before args s = true) (hT : GoodIn Ts (va_wsS own index y ws)) (hw : ws = Cond.codeWith y bytes maxL ret hh :: ws') (hrc : rm.cells = mc) (hrs : rm.slots = ms)
    (hd : y.cls ≠ "java/lang/invoke/MethodHandle" ∧ y.cls ≠ "java/lang/invoke/VarHandle" ∧ (parseMethodDescriptor y.desc).map (fun d => d.parameters.length) = some n) (hR : rm.frames + 1 ≤ R.frames ∧ 8 + (maxL + 11) + rm.locals ≤ R.locals) :
    vx_CSW R s args own index y bytes maxL ret hh ws rm mc ms n := by
  have ok : ∀ w ∈ va_wsS own index y ws, w.before args s = true := fun w h => ht w (hT w h).1
  have hG : GoodIn Ts ws := fun w h => hT w (by unfold va_wsS; exact List.mem_append_right _ h)
  have hc : Cond.codeWith y bytes maxL ret hh ∈ ws := by rw [hw]; exact List.mem_cons_self
  refine ⟨⟨hrc, hrs, hR.1, hR.2, pay_in ht hG, hc⟩, ht _ (hG _ hc).1, ok _ (by simp [va_wsS]), ⟨hd.1, hd.2.1⟩, fun sig h => ?_, ok _ (by simp [va_wsS]), ok _ (by simp [va_wsS])⟩
  have h2 := hd.2.2
  rw [h] at h2
  exact (Option.some.inj h2).symm
theorem vx_callSW (X : Stand p l e R s m args below meth c T locs cells slots) (hexec : p.tables.exec = Jvm.exec) {own : String} {index : Nat} {y : MethodName} {bytes : ByteArray} {maxL : Nat} {ret : Option FieldType} {hh : List (Nat × Nat × Nat × Nat)}
    (hown : s.vm.findClass own = some m.cls) (hlink : (Cond.methodLink own index y).before args s = true) (hstat : (Cond.static y).before args s = true) (hinit : (Cond.initialized y.cls).before args s = true)
    (hcode : (Cond.codeWith y bytes maxL ret hh).before args s = true) (hy : y.cls ≠ "java/lang/invoke/MethodHandle" ∧ y.cls ≠ "java/lang/invoke/VarHandle")
    {W9 : Nat} {Pre : Pt → Array Value → Prop} {Post : Pt → Array Value → Option Value → Pt → Prop} (hK : Back l R p e below s args y 3 W9 Pre Post)
    {g : JFrame} (hg : g.method = m) (hsize : g.locals.size = c.maxLocals) {argsL rest : List Value} (hlen : ∀ sig, parseMethodDescriptor y.desc = some sig → argsL.length = sig.parameters.length)
    (hstack : g.stack = argsL.reverse ++ rest) (hW : 2 * g.monitorRoom + (rest.map fun v => v.category).sum ≤ W9) (hdg : decode c.code g.pc = .ok (.invokestatic index, 3))
    (hpre : ∀ vm₁, s.WarmedH vm₁ → Pre ⟨T.setVm vm₁, locs, cells, slots⟩ argsL.toArray) :
    ∃ (v : Option Value) (vm₁ : Vm) (B : Pt), s.WarmedH vm₁ ∧ Stand p l e R s m args below meth c B.U B.locs B.cells B.slots ∧ Post ⟨T.setVm vm₁, locs, cells, slots⟩ argsL.toArray v B ∧
      ∀ target, Steps p.tables e below (B.U.setTop { g with pc := g.pc + 3, stack := v.toList ++ rest }) target → Steps p.tables e below (T.setTop g) target := by
  obtain ⟨mk, methM, cM, hnamed, hmethM, -, -, -, -, -, -, hsigM⟩ := Cond.codeWith_spec hcode
  have hstatic : methM.isStatic = true := Cond.static_spec hnamed hmethM hstat
  obtain ⟨kP, hkP, -⟩ := className_of_methodNamed hnamed
  have hinitP : kP.init = .initialized := Cond.initialized_spec (findClass_of_methodNamed hnamed) hkP hinit
  obtain ⟨vm₁, X₁, hstep₁⟩ := X.invokestatic hexec hown hlink hnamed hmethM hstatic hkP hinitP hy (g := g) hg (argsL := argsL) (rest := rest) (hlen _ hsigM) hstack hdg
  obtain ⟨v, B, X', hpost, hsteps⟩ := hK m meth c ⟨T.setVm vm₁, locs, cells, slots⟩ { g with stack := rest } (.invokestatic index) mk argsL.toArray X₁ hg hsize hdg hW (X₁.named hnamed) (hpre vm₁ X₁.warmed)
  exact ⟨v, vm₁, B, X₁.warmed, X', hpost, fun target h => hstep₁ _ fun acts => by rw [doInvoke_state]; exact hsteps.trans h⟩
theorem vx_runSW {y : MethodName} {bytes cc : ByteArray} {maxL nL mc ms n index : Nat} {ret : Option FieldType} {hh : List (Nat × Nat × Nat × Nat)} {ws : List Cond} {rm : Room} {Pc : Array Value → State → Prop} {Qc : Array Value → State → Outcome → State → Prop} {free : Addr → Prop} {Ts : List Cond} {own : String} {As rest : List Value} {g : JFrame}
    (S : CallFix p m c cc nL s args Ts own) (hM : Met l y ws rm Pc Qc mc ms free) (cw : vx_CSW R s args own index y bytes maxL ret hh ws rm mc ms n) (hp : PreS s H Pc As)
    (hg : g.method = m) (hn : As.length = n) (hsize : g.locals.size = nL) (hstack : g.stack = As.reverse ++ rest) (hW : 2 * g.monitorRoom + (rest.map fun v => v.category).sum ≤ 8) (hdg : decode cc g.pc = .ok (.invokestatic index, 3)) (hf : cells + mc ≤ R.cells ∧ slots + ms ≤ R.slots) :
    va_Run p l e R s m args below meth c H locs cells slots mc ms g rest (Qc As.toArray) (free) := by
  obtain ⟨⟨hrc, hrs, hfr, hlo, hws, hcw⟩, hcode, hini, hy, hlen, hl, hstt⟩ := cw
  have hK : Back l R p e below s args y 3 8 (PreOf R mc ms Pc) (PostOf Qc mc ms free) := va_backW (hh := hh) (bytes := bytes) (maxL := maxL) (ret := ret) hM hp.1 hrc hrs hfr hlo hws hcw (fun a' U hW => word_at hW (Or.inl (by first | rfl | simp [Cond.onTables, Cond.keeps, Cond.steady])) hini)
  obtain ⟨hx, hb, hml, ho, -⟩ := S
  intro T hT X
  obtain ⟨v, vm₁, ⟨U', l2, c2, s2⟩, hW₁, X', ⟨g', mk, t, L, e1, e2, hq, h1, hL, h2, h3⟩, st⟩ := vx_callSW X hx (hh := hh) (bytes := bytes) (maxL := maxL) (ret := ret) ho hl hstt hini hcode hy hK hg (hsize.trans hml.symm) (argsL := As) (rest := rest) (fun sig h => hn.trans (hlen sig h)) hstack hW (by rw [hb]; exact hdg)
    (fun vm₁ hW₁ => ⟨hf.1, hf.2, hp.2 (T.setVm vm₁) hT hW₁⟩)
  dsimp only [Pt.U, Pt.locs, Pt.cells, Pt.slots] at X' e1 e2 h1 h2 h3 st
  subst h1; subst h2; subst h3
  exact ⟨v, (T.setVm vm₁).calling g' mk As.toArray, t, U', L, hT, X', hL, e1, e2, hq, st⟩
/-- not caught here, past rows that name other classes: it goes on to the caller -/
theorem vx_outP {p : Program} {l : Launch} {e : Env} {R : Room} {s : State} {m : MethodId} {args : Array Value} {below : List Frame} {meth : Method} {c : Code} {H : Heap} {locs : List Loc} {cells slots : Nat} {free : Addr → Prop} {ls : Array Slot} {rest : List Value} {Qc : Array Value → State → Outcome → State → Prop} {XC : String → State → State → Prop}
    {pc : Nat} {own E : String} {ce : Cell} {q : Addr} {mc ms : Nat} (hown : s.vm.findClass own = some m.cls) (hlocks : meth.locks = false)
    (hpass : ∀ z ∈ c.exceptionTable.toList, covers z pc = false ∨ (z.catchType ≠ 0 ∧ ∃ nm : String, (Cond.classLink own z.catchType nm).before args s = true ∧ va_Nc E nm s)) (hcell : H[q]? = some ce) (hv : ce.vm = .none) (hcl : s.vm.findClass E = some ce.cls)
    (hx : ∀ t : State, t.heap = H → s.vm.Alike t.vm → XC E s t) (hf : ∀ z ∈ locs, free z.base) (hc : cells ≤ mc) (hs : slots ≤ ms) :
    vx_W p l e R s m args below meth c H locs cells slots (vx_MQ below Qc XC args s mc ms free) (F0 m pc ls rest) q := by
  intro T hT X
  have hpl : e.platform.magicAccessors = ({} : Platform).magicAccessors := by rw [X.admits.platform]
  obtain ⟨vm', hW', X', st⟩ := X.outThrough hlocks q (g := F0 m pc ls rest) rfl rfl rfl (cell := ce) (by rw [hT]; exact hcell) (by rw [hv]; rfl)
    (by obtain ⟨k9, h9, -⟩ := Vm.findClass_spec hcl; exact ⟨k9, h9⟩) (fun z hz => by
      rcases hpass z hz with h | ⟨hz0, nm, hl1, hn1⟩
      · exact Or.inl h
      · obtain ⟨c6, hc6, hcl6⟩ := Cond.classLink_spec hown hl1 e.platform hpl
        obtain ⟨a8, b8, h1, h2, h3⟩ := hn1
        cases Option.some.inj (h1.symm.trans hcl)
        cases Option.some.inj (h2.symm.trans hc6)
        exact Or.inr ⟨hz0, _, hcl6, h3⟩)
  obtain ⟨g₀, hfr⟩ := X'.frames_eq
  have hcell9 : ((T.setVm vm').setFrames (.throwing q :: below)).heap[q]? = some ce := by
    show T.heap[q]? = some ce
    rw [hT]; exact hcell
  have hend : Ended ((T.setVm vm').setFrames (.throwing q :: below)) below (.threw q) := State.frames_setFrames _ (State.cur_lt_of_frames hfr)
  refine ⟨(T.setVm vm').setFrames (.throwing q :: below), ?_, .threw q, X'.here.running, hend, Or.inr ⟨q, rfl, E, ce, locs, hx _ hT (X'.ends _).1.alike, hcell9, hv, hcl, (X'.ends _).1, (X'.ends _).2.mono hc hs, hf⟩⟩
  rw [X.pushThrowing_eq]
  exact st
/-- a thing of a world lies in the heap -/
theorem vx_lt {D : va_G} {cl : List vw_C} {ws : va_W} {H1 : Heap} (h : va_P D cl ws H1) {k : Nat} {q : Nat × va_E} (hk : ws[k]? = some q) : q.1 < H1.size := (h k q hk).lt
end VXS
/-! ===== END ===== -/
/-! ===== BEGIN methods with a table of their own: called by a name, returning or throwing ===== -/
section VXH
/-! vx_backW, vx_callVX, vx_callSX, vx_callVW, vx_runVW, vx_runVX, vx_runSX, vx_ofWH follow the same proofs as their sisters above (Free/Laws.lean, Shelf42/LK1.lean); vx_outP calls Shelf42/NT130.lean (outThrough). -/
section
variable {l : Launch} {R : Room} {p : Program} {e : Env} {below : List Frame} {s : State} {sargs : Array Value} {y : MethodName} {len W9 : Nat}
theorem vx_backW {ws : List Cond} {rm : Room} {Pc : Array Value → State → Prop} {Qc : Array Value → State → Outcome → State → Prop} {XC : String → State → State → Prop} {mc ms : Nat} {free : Addr → Prop} {bytes : ByteArray} {maxL : Nat} {ret : Option FieldType} {hh : List (Nat × Nat × Nat × Nat)}
    (hM : vx_Met l y ws rm Pc Qc XC mc ms free) (hblind : FrameBlind Pc) (hrc : rm.cells = mc) (hrs : rm.slots = ms)
    (hframes : rm.frames + 1 ≤ R.frames) (hlocals : W9 + (maxL + 11) + rm.locals ≤ R.locals)
    (hws : ∀ w ∈ ws, ∀ a' U, s.WarmedH U.vm → w.before a' U = true) (hcode : Cond.codeWith y bytes maxL ret hh ∈ ws) (hinit : ∀ a' U, s.WarmedH U.vm → (Cond.initialized y.cls).before a' U = true) :
    vx_Back l R p e below s sargs y len W9 (PreOf R mc ms Pc) (PostOf Qc mc ms free) (vx_Post XC mc ms free) := by
  intro m meth c A g ig mk a X hg hsize hdg hW hn hp
  have h1 : (headSpec ws rm).pre.before a A.U = true := atoms_intro fun w hw => hws w hw _ _ X.warmed
  have h2 : (Cond.codeWith y bytes maxL ret hh).before a A.U = true := hws _ hcode _ _ X.warmed
  have h3 : (Cond.initialized y.cls).before a A.U = true := hinit _ _ X.warmed
  have h4 : A.cells + (headSpec ws rm).room.cells ≤ R.cells := by rw [show (headSpec ws rm).room.cells = mc from hrc]; exact hp.1
  have h5 : A.slots + (headSpec ws rm).room.slots ≤ R.slots := by rw [show (headSpec ws rm).room.slots = ms from hrs]; exact hp.2.1
  have hPc : Pc a (A.U.calling g mk a) := hblind _ _ _ _ hp.2.2
  obtain ⟨U, Ls, c0, s0⟩ := A
  dsimp only [Pt.U, Pt.locs, Pt.cells, Pt.slots] at h1 h2 h3 h4 h5 X hn hPc ⊢
  obtain ⟨m9, methY, cY, hn9, hmY, hcY, -, hlY, -⟩ := Cond.codeWith_spec h2
  cases Option.some.inj (hn9.symm.trans hn)
  obtain ⟨kY, hkY, -⟩ := className_of_methodNamed hn
  have hinitY : kY.init = .initialized := Cond.initialized_spec (findClass_of_methodNamed hn) hkY h3
  have h : At U g.method c below := by rw [hg]; exact X.here
  have hlocals9 : W9 + (maxL + 11) + (headSpec ws rm).room.locals ≤ R.locals := hlocals
  have happ : (headSpec ws rm).appliesLoose y e.platform (U.calling g mk a) = true :=
    Spec.appliesLoose_calling (g := g) h hdg hn hkY hinitY
      (X.room_calling (g := g) (R' := (headSpec ws rm).room) hsize hmY hcY hframes (by rw [hlY]; omega) h4 h5) h1
  obtain ⟨mid, hmid⟩ := h.above
  have hfr : (U.setTop g).frames = (.java g :: mid) ++ below := by rw [State.frames_setTop' g h.top, hmid]; rfl
  obtain ⟨o, s₂, hsteps, -, hend, hq⟩ := Steps.callFree hM p X.admits X.cas X.clock (acts := []) hfr happ hPc trivial
  have hq' : vx_Q Qc XC mc ms free a (U.calling g mk a) o s₂ := hq
  rw [State.frames_setTop' g h.top] at hend
  obtain ⟨g₀, hg0⟩ := Option.isSome_iff_exists.mp h.top
  obtain ⟨r, hr⟩ := State.topJava?_eq_some.mp hg0
  have hr' : (({ U with heap := s₂.heap, slotsUsed := s₂.slotsUsed } : State).setVm s₂.vm).frames = .java g₀ :: r := hr
  rcases hq' with ⟨hqc, L, hfe, hL⟩ | ⟨q, rfl, E, ce, L, hx, hce, hcv, hcl, hW₂, hsm, hL⟩
  · obtain ⟨⟨v, rfl⟩, hW₂, e2, q2, q3, q4, q5, q6⟩ := id hfe
    have e3 : s₂ = ({ (U.calling g mk a).setFrames s₂.frames with heap := s₂.heap, slotsUsed := s₂.slotsUsed } : State).setVm s₂.vm := by
      have : s₂ = ({ s₂ with vm := (U.calling g mk a).vm } : State).setVm s₂.vm := rfl
      rw [e2] at this
      exact this
    obtain ⟨c₂, i₂, len₂, hc₂, hd₂, hf₂⟩ := hend
    have hW' : U.WarmedH s₂.vm := hW₂
    have hcc : c₂ = c := by
      have h1 : s₂.code? g.method = U.code? g.method := by
        rw [State.code?_eq, State.code?_eq, hW'.alike.method?]
      exact Option.some.inj (hc₂.symm.trans (h1.trans h.code))
    subst hcc
    have hlen : len₂ = len := by rw [hdg] at hd₂; cases hd₂; rfl
    subst hlen
    have hs₂ : s₂ = (({ U with heap := s₂.heap, slotsUsed := s₂.slotsUsed } : State).setVm s₂.vm).setTop { g with pc := g.pc + len₂, stack := v.toList ++ g.stack } := by
      refine e3.trans ?_
      rw [hf₂, State.calling_eq h.top, State.setFrames_setFrames, State.setTop_of_frames _ hr', hr]
      rfl
    have hsame : U.sameButNew ({ U with heap := s₂.heap, slotsUsed := s₂.slotsUsed } : State) L mc ms := by
      refine ⟨?_, q2, q3, q4, q5, q6⟩
      obtain ⟨t, ht, -⟩ := State.frames_cons hr
      show ({ U with heap := s₂.heap, slotsUsed := s₂.slotsUsed } : State) = { U.setFrames U.frames with heap := s₂.heap, slotsUsed := s₂.slotsUsed }
      rw [State.setFrames_self ht]
    subst hg
    refine Or.inl ⟨v, ⟨(({ U with heap := s₂.heap, slotsUsed := s₂.slotsUsed } : State).setVm s₂.vm), Ls ++ L, c0 + mc, s0 + ms⟩,
      ⟨X.admits, X.cas, X.clock, X.frames, X.room, X.hears, X.method, X.code, (X.here.setHeapUsed s₂.heap s₂.slotsUsed).setVm hW'.alike, X.tail, State.WarmedH.trans X.warmed hW', X.limits, X.bytes, X.same.trans (hsame.setVm s.vm)⟩,
      ⟨g, mk, s₂, L, rfl, rfl, hqc, rfl, hL, rfl, rfl⟩, ?_⟩
    show Steps p.tables e below _ ((({ U with heap := s₂.heap, slotsUsed := s₂.slotsUsed } : State).setVm s₂.vm).setTop { g with pc := g.pc + len₂, stack := v.toList ++ g.stack })
    rw [← hs₂]
    exact hsteps
  · obtain ⟨e2, q2, q3, q4, q5, q6⟩ := id hsm
    have e3 : s₂ = ({ (U.calling g mk a).setFrames s₂.frames with heap := s₂.heap, slotsUsed := s₂.slotsUsed } : State).setVm s₂.vm := by
      have : s₂ = ({ s₂ with vm := (U.calling g mk a).vm } : State).setVm s₂.vm := rfl
      rw [e2] at this
      exact this
    have hf₂ : s₂.frames = .throwing q :: .java g :: U.frames.tail := hend
    have hW' : U.WarmedH s₂.vm := hW₂
    have hs₂ : s₂ = ((({ U with heap := s₂.heap, slotsUsed := s₂.slotsUsed } : State).setVm s₂.vm).setTop g).pushFrame (.throwing q) := by
      refine e3.trans ?_
      rw [hf₂, State.calling_eq h.top, State.setFrames_setFrames, State.pushFrame, State.frames_setTop _ hr', State.setTop_of_frames _ hr', State.setFrames_setFrames, hr]
      rfl
    have hsame : U.sameButNew ({ U with heap := s₂.heap, slotsUsed := s₂.slotsUsed } : State) L mc ms := by
      refine ⟨?_, q2, q3, q4, q5, q6⟩
      obtain ⟨t, ht, -⟩ := State.frames_cons hr
      show ({ U with heap := s₂.heap, slotsUsed := s₂.slotsUsed } : State) = { U.setFrames U.frames with heap := s₂.heap, slotsUsed := s₂.slotsUsed }
      rw [State.setFrames_self ht]
    subst hg
    refine Or.inr ⟨q, ⟨(({ U with heap := s₂.heap, slotsUsed := s₂.slotsUsed } : State).setVm s₂.vm), Ls ++ L, c0 + mc, s0 + ms⟩,
      ⟨X.admits, X.cas, X.clock, X.frames, X.room, X.hears, X.method, X.code, (X.here.setHeapUsed s₂.heap s₂.slotsUsed).setVm hW'.alike, X.tail, State.WarmedH.trans X.warmed hW', X.limits, X.bytes, X.same.trans (hsame.setVm s.vm)⟩,
      ⟨g, mk, s₂, L, E, ce, rfl, rfl, hx, hce, hcv, hcl, rfl, hL, rfl, rfl⟩, ?_⟩
    show Steps p.tables e below _ (((({ U with heap := s₂.heap, slotsUsed := s₂.slotsUsed } : State).setVm s₂.vm).setTop g).pushFrame (.throwing q))
    rw [← hs₂]
    exact hsteps
end
variable {p : Program} {l : Launch} {e : Env} {R : Room} {s : State} {m : MethodId} {args : Array Value} {below : List Frame} {meth : Method} {c : Code} {T : State} {H : Heap} {locs : List Loc} {cells slots : Nat}
theorem vx_callVX (X : Stand p l e R s m args below meth c T locs cells slots) (hexec : p.tables.exec = Jvm.exec) {own C : String} {index : Nat} {y : MethodName} {bytes : ByteArray} {maxL : Nat} {ret : Option FieldType} {hh : List (Nat × Nat × Nat × Nat)}
    (hown : s.vm.findClass own = some m.cls) (hlink : (Cond.methodLink own index y).before args s = true) (hinst : (Cond.instanceMethod y).before args s = true) (hsel : (Cond.selects C y y).before args s = true)
    (hcode : (Cond.codeWith y bytes maxL ret hh).before args s = true) (hy : y.cls ≠ "java/lang/invoke/MethodHandle" ∧ y.cls ≠ "java/lang/invoke/VarHandle")
    {W9 : Nat} {Pre : Pt → Array Value → Prop} {Post : Pt → Array Value → Option Value → Pt → Prop} {PostX : Pt → Array Value → Addr → Pt → Prop} (hK : vx_Back l R p e below s args y 3 W9 Pre Post PostX)
    {b : Addr} {cellB : Cell} (hcell : T.heap[b]? = some cellB) (hobj : cellB.vm.isStatics = false) (hcls : s.vm.findClass C = some cellB.cls)
    {g : JFrame} (hg : g.method = m) (hsize : g.locals.size = c.maxLocals) {argsL rest : List Value} (hlen : ∀ sig, parseMethodDescriptor y.desc = some sig → argsL.length = sig.parameters.length)
    (hstack : g.stack = argsL.reverse ++ .ref b :: rest) (hW : 2 * g.monitorRoom + (rest.map fun v => v.category).sum ≤ W9) (hdg : decode c.code g.pc = .ok (.invokevirtual index, 3))
    (hpre : ∀ vm₁, s.WarmedH vm₁ → Pre ⟨T.setVm vm₁, locs, cells, slots⟩ (Value.ref b :: argsL).toArray) :
    (∃ (v : Option Value) (vm₁ : Vm) (B : Pt), s.WarmedH vm₁ ∧ Stand p l e R s m args below meth c B.U B.locs B.cells B.slots ∧ Post ⟨T.setVm vm₁, locs, cells, slots⟩ (Value.ref b :: argsL).toArray v B ∧
      ∀ target, Steps p.tables e below (B.U.setTop { g with pc := g.pc + 3, stack := v.toList ++ rest }) target → Steps p.tables e below (T.setTop g) target) ∨
    (∃ (q : Addr) (vm₁ : Vm) (B : Pt), s.WarmedH vm₁ ∧ Stand p l e R s m args below meth c B.U B.locs B.cells B.slots ∧ PostX ⟨T.setVm vm₁, locs, cells, slots⟩ (Value.ref b :: argsL).toArray q B ∧
      Steps p.tables e below (T.setTop g) ((B.U.setTop { g with stack := rest }).pushFrame (.throwing q))) := by
  obtain ⟨mk, methM, hnamed, hmethM, hstM, habM⟩ := Cond.instanceMethod_spec hinst
  obtain ⟨m8, methM', cM, hn8, hmethM', -, -, -, -, -, -, hsigM⟩ := Cond.codeWith_spec hcode
  cases Option.some.inj (hn8.symm.trans hnamed)
  cases hmethM.symm.trans hmethM'
  obtain ⟨c2, r2, m2, q1, q2, q3, q4, kP, hkP, hkPi⟩ := Cond.selects_spec hsel
  cases hcls.symm.trans q1
  cases (State.methodFound?_of_named hnamed hy).symm.trans q2
  cases hnamed.symm.trans q3
  have hselP : selectMethod e.platform s.vm cellB.cls mk = .method mk := by rw [Launch.admits_selectMethod X.admits]; exact q4
  obtain ⟨vm₁, X₁, hstep₁⟩ := X.invokevirtual hexec hown hlink hnamed hmethM hstM hkP hkPi hy (a := b) (cell := cellB) hcell
    (fun z h => by rw [h] at hobj; cases hobj) hselP hmethM habM hkP hkPi (g := g) hg (argsL := argsL) (rest := rest) (hlen _ hsigM) hstack hdg
  rcases hK m meth c ⟨T.setVm vm₁, locs, cells, slots⟩ { g with stack := rest } (.invokevirtual index) mk (Value.ref b :: argsL).toArray X₁ hg hsize hdg hW (X₁.named hnamed) (hpre vm₁ X₁.warmed) with ⟨v, B, X', hpost, hsteps⟩ | ⟨q, B, X', hpost, hsteps⟩
  · exact Or.inl ⟨v, vm₁, B, X₁.warmed, X', hpost, fun target h => hstep₁ _ fun acts => by rw [doInvoke_state]; exact hsteps.trans h⟩
  · exact Or.inr ⟨q, vm₁, B, X₁.warmed, X', hpost, hstep₁ _ fun acts => by rw [doInvoke_state]; exact hsteps⟩
theorem vx_callSX (X : Stand p l e R s m args below meth c T locs cells slots) (hexec : p.tables.exec = Jvm.exec) {own : String} {index : Nat} {y : MethodName} {bytes : ByteArray} {maxL : Nat} {ret : Option FieldType} {hh : List (Nat × Nat × Nat × Nat)}
    (hown : s.vm.findClass own = some m.cls) (hlink : (Cond.methodLink own index y).before args s = true) (hstat : (Cond.static y).before args s = true) (hinit : (Cond.initialized y.cls).before args s = true)
    (hcode : (Cond.codeWith y bytes maxL ret hh).before args s = true) (hy : y.cls ≠ "java/lang/invoke/MethodHandle" ∧ y.cls ≠ "java/lang/invoke/VarHandle")
    {W9 : Nat} {Pre : Pt → Array Value → Prop} {Post : Pt → Array Value → Option Value → Pt → Prop} {PostX : Pt → Array Value → Addr → Pt → Prop} (hK : vx_Back l R p e below s args y 3 W9 Pre Post PostX)
    {g : JFrame} (hg : g.method = m) (hsize : g.locals.size = c.maxLocals) {argsL rest : List Value} (hlen : ∀ sig, parseMethodDescriptor y.desc = some sig → argsL.length = sig.parameters.length)
    (hstack : g.stack = argsL.reverse ++ rest) (hW : 2 * g.monitorRoom + (rest.map fun v => v.category).sum ≤ W9) (hdg : decode c.code g.pc = .ok (.invokestatic index, 3))
    (hpre : ∀ vm₁, s.WarmedH vm₁ → Pre ⟨T.setVm vm₁, locs, cells, slots⟩ argsL.toArray) :
    (∃ (v : Option Value) (vm₁ : Vm) (B : Pt), s.WarmedH vm₁ ∧ Stand p l e R s m args below meth c B.U B.locs B.cells B.slots ∧ Post ⟨T.setVm vm₁, locs, cells, slots⟩ argsL.toArray v B ∧
      ∀ target, Steps p.tables e below (B.U.setTop { g with pc := g.pc + 3, stack := v.toList ++ rest }) target → Steps p.tables e below (T.setTop g) target) ∨
    (∃ (q : Addr) (vm₁ : Vm) (B : Pt), s.WarmedH vm₁ ∧ Stand p l e R s m args below meth c B.U B.locs B.cells B.slots ∧ PostX ⟨T.setVm vm₁, locs, cells, slots⟩ argsL.toArray q B ∧
      Steps p.tables e below (T.setTop g) ((B.U.setTop { g with stack := rest }).pushFrame (.throwing q))) := by
  obtain ⟨mk, methM, cM, hnamed, hmethM, -, -, -, -, -, -, hsigM⟩ := Cond.codeWith_spec hcode
  have hstatic : methM.isStatic = true := Cond.static_spec hnamed hmethM hstat
  obtain ⟨kP, hkP, -⟩ := className_of_methodNamed hnamed
  have hinitP : kP.init = .initialized := Cond.initialized_spec (findClass_of_methodNamed hnamed) hkP hinit
  obtain ⟨vm₁, X₁, hstep₁⟩ := X.invokestatic hexec hown hlink hnamed hmethM hstatic hkP hinitP hy (g := g) hg (argsL := argsL) (rest := rest) (hlen _ hsigM) hstack hdg
  rcases hK m meth c ⟨T.setVm vm₁, locs, cells, slots⟩ { g with stack := rest } (.invokestatic index) mk argsL.toArray X₁ hg hsize hdg hW (X₁.named hnamed) (hpre vm₁ X₁.warmed) with ⟨v, B, X', hpost, hsteps⟩ | ⟨q, B, X', hpost, hsteps⟩
  · exact Or.inl ⟨v, vm₁, B, X₁.warmed, X', hpost, fun target h => hstep₁ _ fun acts => by rw [doInvoke_state]; exact hsteps.trans h⟩
  · exact Or.inr ⟨q, vm₁, B, X₁.warmed, X', hpost, hstep₁ _ fun acts => by rw [doInvoke_state]; exact hsteps⟩
theorem vx_callVW (X : Stand p l e R s m args below meth c T locs cells slots) (hexec : p.tables.exec = Jvm.exec) {own C : String} {index : Nat} {y : MethodName} {bytes : ByteArray} {maxL : Nat} {ret : Option FieldType} {hh : List (Nat × Nat × Nat × Nat)}
    (hown : s.vm.findClass own = some m.cls) (hlink : (Cond.methodLink own index y).before args s = true) (hinst : (Cond.instanceMethod y).before args s = true) (hsel : (Cond.selects C y y).before args s = true)
    (hcode : (Cond.codeWith y bytes maxL ret hh).before args s = true) (hy : y.cls ≠ "java/lang/invoke/MethodHandle" ∧ y.cls ≠ "java/lang/invoke/VarHandle")
    {W9 : Nat} {Pre : Pt → Array Value → Prop} {Post : Pt → Array Value → Option Value → Pt → Prop} (hK : Back l R p e below s args y 3 W9 Pre Post)
    {b : Addr} {cellB : Cell} (hcell : T.heap[b]? = some cellB) (hobj : cellB.vm.isStatics = false) (hcls : s.vm.findClass C = some cellB.cls)
    {g : JFrame} (hg : g.method = m) (hsize : g.locals.size = c.maxLocals) {argsL rest : List Value} (hlen : ∀ sig, parseMethodDescriptor y.desc = some sig → argsL.length = sig.parameters.length)
    (hstack : g.stack = argsL.reverse ++ .ref b :: rest) (hW : 2 * g.monitorRoom + (rest.map fun v => v.category).sum ≤ W9) (hdg : decode c.code g.pc = .ok (.invokevirtual index, 3))
    (hpre : ∀ vm₁, s.WarmedH vm₁ → Pre ⟨T.setVm vm₁, locs, cells, slots⟩ (Value.ref b :: argsL).toArray) :
    ∃ (v : Option Value) (vm₁ : Vm) (B : Pt), s.WarmedH vm₁ ∧ Stand p l e R s m args below meth c B.U B.locs B.cells B.slots ∧ Post ⟨T.setVm vm₁, locs, cells, slots⟩ (Value.ref b :: argsL).toArray v B ∧
      ∀ target, Steps p.tables e below (B.U.setTop { g with pc := g.pc + 3, stack := v.toList ++ rest }) target → Steps p.tables e below (T.setTop g) target := by
  obtain ⟨mk, methM, hnamed, hmethM, hstM, habM⟩ := Cond.instanceMethod_spec hinst
  obtain ⟨m8, methM', cM, hn8, hmethM', -, -, -, -, -, -, hsigM⟩ := Cond.codeWith_spec hcode
  cases Option.some.inj (hn8.symm.trans hnamed)
  cases hmethM.symm.trans hmethM'
  obtain ⟨c2, r2, m2, q1, q2, q3, q4, kP, hkP, hkPi⟩ := Cond.selects_spec hsel
  cases hcls.symm.trans q1
  cases (State.methodFound?_of_named hnamed hy).symm.trans q2
  cases hnamed.symm.trans q3
  have hselP : selectMethod e.platform s.vm cellB.cls mk = .method mk := by rw [Launch.admits_selectMethod X.admits]; exact q4
  obtain ⟨vm₁, X₁, hstep₁⟩ := X.invokevirtual hexec hown hlink hnamed hmethM hstM hkP hkPi hy (a := b) (cell := cellB) hcell
    (fun z h => by rw [h] at hobj; cases hobj) hselP hmethM habM hkP hkPi (g := g) hg (argsL := argsL) (rest := rest) (hlen _ hsigM) hstack hdg
  obtain ⟨v, B, X', hpost, hsteps⟩ := hK m meth c ⟨T.setVm vm₁, locs, cells, slots⟩ { g with stack := rest } (.invokevirtual index) mk (Value.ref b :: argsL).toArray X₁ hg hsize hdg hW (X₁.named hnamed) (hpre vm₁ X₁.warmed)
  exact ⟨v, vm₁, B, X₁.warmed, X', hpost, fun target h => hstep₁ _ fun acts => by rw [doInvoke_state]; exact hsteps.trans h⟩
abbrev vx_CVW (R : Room) (s : State) (args : Array Value) (own C : String) (index : Nat) (y : MethodName) (bytes : ByteArray) (maxL : Nat) (ret : Option FieldType) (hh : List (Nat × Nat × Nat × Nat)) (ws : List Cond) (rm : Room) (mc ms n : Nat) : Prop :=
  (rm.cells = mc ∧ rm.slots = ms ∧ rm.frames + 1 ≤ R.frames ∧ 8 + (maxL + 11) + rm.locals ≤ R.locals ∧ (∀ w ∈ ws, ∀ (a' : Array Value) (U : State), s.WarmedH U.vm → w.before a' U = true) ∧ Cond.codeWith y bytes maxL ret hh ∈ ws) ∧
  (Cond.codeWith y bytes maxL ret hh).before args s = true ∧ (Cond.initialized y.cls).before args s = true ∧ (y.cls ≠ "java/lang/invoke/MethodHandle" ∧ y.cls ≠ "java/lang/invoke/VarHandle") ∧
  (∀ sig, parseMethodDescriptor y.desc = some sig → n = sig.parameters.length) ∧ (Cond.methodLink own index y).before args s = true ∧ (Cond.instanceMethod y).before args s = true ∧ (Cond.selects C y y).before args s = true
theorem vx_cwVW {own C : String} {index maxL mc ms : Nat} {y : MethodName} {bytes : ByteArray} {ret : Option FieldType} {hh : List (Nat × Nat × Nat × Nat)} {Ts ws ws' : List Cond} {rm : Room} (n : Nat) (ht : ∀ w ∈ Ts, w.before args s = true) (hT : GoodIn Ts (wsV own index C y ws)) (hw : ws = Cond.codeWith y bytes maxL ret hh :: ws') (hrc : rm.cells = mc) (hrs : rm.slots = ms)
    (hd : y.cls = C ∧ y.cls ≠ "java/lang/invoke/MethodHandle" ∧ y.cls ≠ "java/lang/invoke/VarHandle" ∧ (parseMethodDescriptor y.desc).map (fun d => d.parameters.length) = some n) (hR : rm.frames + 1 ≤ R.frames ∧ 8 + (maxL + 11) + rm.locals ≤ R.locals) :
    vx_CVW R s args own C index y bytes maxL ret hh ws rm mc ms n := by
  obtain ⟨hC, hd⟩ := hd
  subst hC
  have ok : ∀ w ∈ wsV own index y.cls y ws, w.before args s = true := fun w h => ht w (hT w h).1
  have hG : GoodIn Ts ws := fun w h => hT w (by unfold wsV; exact List.mem_append_right _ h)
  have hc : Cond.codeWith y bytes maxL ret hh ∈ ws := by rw [hw]; exact List.mem_cons_self
  refine ⟨⟨hrc, hrs, hR.1, hR.2, pay_in ht hG, hc⟩, ht _ (hG _ hc).1, ok _ (by simp [wsV]), ⟨hd.1, hd.2.1⟩, fun sig h => ?_, ok _ (by simp [wsV]), ok _ (by simp [wsV]), ok _ (by simp [wsV])⟩
  have h2 := hd.2.2
  rw [h] at h2
  exact (Option.some.inj h2).symm
theorem vx_runVW {y : MethodName} {bytes cc : ByteArray} {maxL nL mc ms n index : Nat} {ret : Option FieldType} {hh : List (Nat × Nat × Nat × Nat)} {ws : List Cond} {rm : Room} {Pc : Array Value → State → Prop} {Qc : Array Value → State → Outcome → State → Prop} {free : Addr → Prop} {Ts : List Cond} {own C : String} {b : Addr} {As rest : List Value} {g : JFrame}
    (S : CallFix p m c cc nL s args Ts own) (hM : Met l y ws rm Pc Qc mc ms free) (cw : vx_CVW R s args own C index y bytes maxL ret hh ws rm mc ms n) (hp : PreV s H C b Pc As)
    (hg : g.method = m) (hn : As.length = n) (hsize : g.locals.size = nL) (hstack : g.stack = As.reverse ++ .ref b :: rest) (hW : 2 * g.monitorRoom + (rest.map fun v => v.category).sum ≤ 8) (hdg : decode cc g.pc = .ok (.invokevirtual index, 3)) (hf : cells + mc ≤ R.cells ∧ slots + ms ≤ R.slots) :
    va_Run p l e R s m args below meth c H locs cells slots mc ms g rest (Qc (Value.ref b :: As).toArray) free := by
  obtain ⟨⟨hrc, hrs, hfr, hlo, hws, hcw⟩, hcode, hini, hy, hlen, hl, hin, hse⟩ := cw
  have hK : Back l R p e below s args y 3 8 (PreOf R mc ms Pc) (PostOf Qc mc ms free) := va_backW (hh := hh) (bytes := bytes) (maxL := maxL) (ret := ret) hM hp.1 hrc hrs hfr hlo hws hcw (fun a' U hW => word_at hW (Or.inl (by first | rfl | simp [Cond.onTables, Cond.keeps, Cond.steady])) hini)
  obtain ⟨hx, hb, hml, ho, -⟩ := S
  obtain ⟨-, ⟨cellB, hcB, hoB, hclB⟩, hPc⟩ := hp
  intro T hT X
  obtain ⟨v, vm₁, ⟨U', l2, c2, s2⟩, hW₁, X', ⟨g', mk, t, L, e1, e2, hq, h1, hL, h2, h3⟩, st⟩ := vx_callVW X hx (C := C) (hh := hh) (bytes := bytes) (maxL := maxL) (ret := ret) ho hl hin hse hcode hy hK (by rw [hT]; exact hcB) hoB hclB hg (hsize.trans hml.symm) (argsL := As) (rest := rest) (fun sig h => hn.trans (hlen sig h)) hstack hW (by rw [hb]; exact hdg)
    (fun vm₁ hW₁ => ⟨hf.1, hf.2, hPc (T.setVm vm₁) hT hW₁⟩)
  dsimp only [Pt.U, Pt.locs, Pt.cells, Pt.slots] at X' e1 e2 h1 h2 h3 st
  subst h1; subst h2; subst h3
  exact ⟨v, (T.setVm vm₁).calling g' mk (Value.ref b :: As).toArray, t, U', L, hT, X', hL, e1, e2, hq, st⟩
section
variable {y : MethodName} {bytes cc : ByteArray} {maxL nL mc ms n index : Nat} {ret : Option FieldType} {ws : List Cond} {rm : Room} {Pc : Array Value → State → Prop} {Qc : Array Value → State → Outcome → State → Prop} {XC : String → State → State → Prop} {free : Addr → Prop} {Ts : List Cond} {own C : String} {b : Addr} {As rest : List Value} {g : JFrame}
theorem vx_runVX {hh : List (Nat × Nat × Nat × Nat)} (S : CallFix p m c cc nL s args Ts own) (hM : vx_Met l y ws rm Pc Qc XC mc ms free) (cw : vx_CVW R s args own C index y bytes maxL ret hh ws rm mc ms n) (hp : PreV s H C b Pc As)
    (hg : g.method = m) (hn : As.length = n) (hsize : g.locals.size = nL) (hstack : g.stack = As.reverse ++ .ref b :: rest) (hW : 2 * g.monitorRoom + (rest.map fun v => v.category).sum ≤ 8) (hdg : decode cc g.pc = .ok (.invokevirtual index, 3)) (hf : cells + mc ≤ R.cells ∧ slots + ms ≤ R.slots) :
    vx_Run p l e R s m args below meth c H locs cells slots mc ms g rest (Qc (Value.ref b :: As).toArray) XC free := by
  obtain ⟨⟨hrc, hrs, hfr, hlo, hws, hcw⟩, hcode, hini, hy, hlen, hl, hin, hse⟩ := cw
  have hK : vx_Back l R p e below s args y 3 8 (PreOf R mc ms Pc) (PostOf Qc mc ms free) (vx_Post XC mc ms free) := vx_backW (hh := hh) (bytes := bytes) (maxL := maxL) (ret := ret) hM hp.1 hrc hrs hfr hlo hws hcw (fun a' U hW => word_at hW (Or.inl (by first | rfl | simp [Cond.onTables, Cond.keeps, Cond.steady])) hini)
  obtain ⟨hx, hb, hml, ho, -⟩ := S
  obtain ⟨-, ⟨cellB, hcB, hoB, hclB⟩, hPc⟩ := hp
  intro T hT X
  rcases vx_callVX X hx (C := C) (hh := hh) (bytes := bytes) (maxL := maxL) (ret := ret) ho hl hin hse hcode hy hK (by rw [hT]; exact hcB) hoB hclB hg (hsize.trans hml.symm) (argsL := As) (rest := rest) (fun sig h => hn.trans (hlen sig h)) hstack hW (by rw [hb]; exact hdg)
    (fun vm₁ hW₁ => ⟨hf.1, hf.2, hPc (T.setVm vm₁) hT hW₁⟩) with ⟨v, vm₁, ⟨U', l2, c2, s2⟩, hW₁, X', ⟨g', mk, t, L, e1, e2, hq, h1, hL, h2, h3⟩, st⟩ | ⟨q, vm₁, ⟨U', l2, c2, s2⟩, hW₁, X', ⟨g', mk, t, L, E, ce, e1, e2, hq, hce, hcv, hcl, h1, hL, h2, h3⟩, st⟩
  · dsimp only [Pt.U, Pt.locs, Pt.cells, Pt.slots] at X' e1 e2 h1 h2 h3 st
    subst h1; subst h2; subst h3
    exact Or.inl ⟨v, (T.setVm vm₁).calling g' mk (Value.ref b :: As).toArray, t, U', L, hT, X', hL, e1, e2, hq, st⟩
  · dsimp only [Pt.U, Pt.locs, Pt.cells, Pt.slots] at X' e1 e2 h1 h2 h3 st hcl
    subst h1; subst h2; subst h3
    exact Or.inr ⟨q, (T.setVm vm₁).calling g' mk (Value.ref b :: As).toArray, t, U', L, E, ce, hT, X', hL, e1, e2, hq, hce, hcv, vx_cls hW₁ hcl, st⟩
theorem vx_runSX {hh : List (Nat × Nat × Nat × Nat)} (S : CallFix p m c cc nL s args Ts own) (hM : vx_Met l y ws rm Pc Qc XC mc ms free) (cw : vx_CSW R s args own index y bytes maxL ret hh ws rm mc ms n) (hp : PreS s H Pc As)
    (hg : g.method = m) (hn : As.length = n) (hsize : g.locals.size = nL) (hstack : g.stack = As.reverse ++ rest) (hW : 2 * g.monitorRoom + (rest.map fun v => v.category).sum ≤ 8) (hdg : decode cc g.pc = .ok (.invokestatic index, 3)) (hf : cells + mc ≤ R.cells ∧ slots + ms ≤ R.slots) :
    vx_Run p l e R s m args below meth c H locs cells slots mc ms g rest (Qc As.toArray) XC free := by
  obtain ⟨⟨hrc, hrs, hfr, hlo, hws, hcw⟩, hcode, hini, hy, hlen, hl, hstt⟩ := cw
  have hK : vx_Back l R p e below s args y 3 8 (PreOf R mc ms Pc) (PostOf Qc mc ms free) (vx_Post XC mc ms free) := vx_backW (hh := hh) (bytes := bytes) (maxL := maxL) (ret := ret) hM hp.1 hrc hrs hfr hlo hws hcw (fun a' U hW => word_at hW (Or.inl (by first | rfl | simp [Cond.onTables, Cond.keeps, Cond.steady])) hini)
  obtain ⟨hx, hb, hml, ho, -⟩ := S
  intro T hT X
  rcases vx_callSX X hx (hh := hh) (bytes := bytes) (maxL := maxL) (ret := ret) ho hl hstt hini hcode hy hK hg (hsize.trans hml.symm) (argsL := As) (rest := rest) (fun sig h => hn.trans (hlen sig h)) hstack hW (by rw [hb]; exact hdg)
    (fun vm₁ hW₁ => ⟨hf.1, hf.2, hp.2 (T.setVm vm₁) hT hW₁⟩) with ⟨v, vm₁, ⟨U', l2, c2, s2⟩, hW₁, X', ⟨g', mk, t, L, e1, e2, hq, h1, hL, h2, h3⟩, st⟩ | ⟨q, vm₁, ⟨U', l2, c2, s2⟩, hW₁, X', ⟨g', mk, t, L, E, ce, e1, e2, hq, hce, hcv, hcl, h1, hL, h2, h3⟩, st⟩
  · dsimp only [Pt.U, Pt.locs, Pt.cells, Pt.slots] at X' e1 e2 h1 h2 h3 st
    subst h1; subst h2; subst h3
    exact Or.inl ⟨v, (T.setVm vm₁).calling g' mk As.toArray, t, U', L, hT, X', hL, e1, e2, hq, st⟩
  · dsimp only [Pt.U, Pt.locs, Pt.cells, Pt.slots] at X' e1 e2 h1 h2 h3 st hcl
    subst h1; subst h2; subst h3
    exact Or.inr ⟨q, (T.setVm vm₁).calling g' mk As.toArray, t, U', L, E, ce, hT, X', hL, e1, e2, hq, hce, hcv, vx_cls hW₁ hcl, st⟩
end
end VXH
theorem vx_ofWH {l : Launch} {y : MethodName} {ws ws' : List Cond} {rm : Room} {Pc : Array Value → State → Prop} {Qc : Array Value → State → Outcome → State → Prop} {XC : String → State → State → Prop} {mc ms : Nat} {free : Addr → Prop} {cc : ByteArray} {maxL : Nat} {ret : Option FieldType} {hh : List (Nat × Nat × Nat × Nat)}
    (hy : plainName y.cls = true) (hw : ws = Cond.codeWith y cc maxL ret hh :: ws')
    (body : ∀ p e s m args below meth c s₁, BodyLoose p l y (headSpec ws rm) cc maxL ret e s m args below meth c s₁ → c.maxLocals = maxL → Pc args s →
      W p l e (headSpec ws rm).room s m args below meth c s.heap [] 0 0 (vx_MQ below Qc XC args s mc ms free) (entryFrame m args maxL)) : vx_Met l y ws rm Pc Qc XC mc ms free := by
  refine MetFree.of_bodyS (code := cc) (maxLocals := maxL) (ret := ret) hy ?_ ?_
  · intro args s m h hn
    obtain ⟨m9, meth, c, hn9, h1, h2, h3, h4, -, h5, h6, -⟩ := Cond.codeWith_spec (atoms_spec (ws := ws) h _ (by rw [hw]; exact List.mem_cons_self))
    cases hn.symm.trans hn9
    exact ⟨meth, c, h1, h2, h3, h4, h5, h6⟩
  · intro p e s m args below meth c s₁ B hml hP _
    have hh0 : s₁.heap = s.heap := by rw [B.state]; rfl
    obtain ⟨t, a1, o, b1, b2, b3⟩ := body p e s m args below meth c s₁ B hml hP s₁ hh0 (Stand.of_body B)
    exact ⟨t, o, a1, b1, b2, b3⟩
/-! ===== END ===== -/
end
section
/-! ===== the small machine: what a place of a method's walk says, for every machine state that it stands for ===== -/
/-- launch; classes and slots; array classes by tag; base; places of the three rows from outside; the script -/
abbrev mG : Type := Launch × va_G × (Nat → ClassId) × Nat × (Nat → Nat) × Nat × (Nat → Int32)
abbrev gL (G : mG) : Launch := G.1
abbrev gD (G : mG) : va_G := G.2.1
abbrev gC (G : mG) : Nat → ClassId := G.2.2.1
abbrev gB (G : mG) : Nat := G.2.2.2.1
abbrev gX (G : mG) : Nat → Nat := G.2.2.2.2.1
abbrev gN (G : mG) : Nat := G.2.2.2.2.2.1
abbrev gS (G : mG) : Nat → Int32 := G.2.2.2.2.2.2
abbrev mA (G : mG) : Nat → Prop := fun q => gB G ≤ q
def mAd (G : mG) (a : Nat) : Nat := if a < 3 then gX G a else gB G + (a - 3)
def mTr (G : mG) : Value → Value
  | .ref a => .ref (mAd G a)
  | .retAddr i => .ref (gX G (i + 3))
  | v => v
def mTrC (G : mG) : ((Nat → Int32) ⊕ (Nat → Int64) ⊕ (Nat → UInt32) ⊕ (Nat → UInt64) ⊕ (Nat → Option Nat)) → ((Nat → Int32) ⊕ (Nat → Int64) ⊕ (Nat → UInt32) ⊕ (Nat → UInt64) ⊕ (Nat → Option Nat))
  | .inr (.inr (.inr (.inr f))) => .inr (.inr (.inr (.inr (fun j => (f j).map (mAd G)))))
  | c => c
def mTrE (G : mG) : va_E → va_E
  | .inl (t, n, c) => .inl (gC G t, n, mTrC G c)
  | .inr (ci, fs) => .inr (ci, fs.map (mTr G))
def mWs (G : mG) (μ : List va_E) : va_W := μ.mapIdx (fun k e => (gB G + k, mTrE G e))
def mPr (G : mG) (lo : List (Option Value)) : List (Nat × Value) := (lo.zipIdx).filterMap (fun q => q.1.map (fun v => (q.2, mTr G v)))
def mTys (G : mG) : List (ClassId × FieldType) := [(gC G 0, .int), (gC G 1, .byte), (gC G 2, .boolean), (gC G 3, .long), (gC G 4, .object RX3)]
def mGood : List Cond := lw_tbl.filter goodWord
def mIsNest : Cond → Bool
  | .fieldLinkNest .. => true
  | .methodLinkNest .. => true
  | _ => false
def mLeast : List Int32 := [2, 2, 1, 1, 100, 1, 0, 100]
def mMost : List Int32 := [99, 99, 9, 9, 400, 14, 2100, 300]
/-- the words' texts and their lengths; the Strings lie at gX 3 .. 14, their bytes at gX 15 .. 26, the throw's text at gX 27 -/
def mSt : List String := ["rest", "easy", "steady", "hard", "long", "race", "group", "load", "camp", "set", "plan", "again"]
def mSl : List Nat := [4, 4, 6, 4, 4, 4, 5, 4, 4, 3, 4, 5]
def mSb : List (List Int32) := [[114, 101, 115, 116], [101, 97, 115, 121], [115, 116, 101, 97, 100, 121], [104, 97, 114, 100], [108, 111, 110, 103], [114, 97, 99, 101], [103, 114, 111, 117, 112], [108, 111, 97, 100], [99, 97, 109, 112], [115, 101, 116], [112, 108, 97, 110], [97, 103, 97, 105, 110]]
/-- what is known of the Strings, of what a throw asks for, and of the static that a check of an index loads (gX 28) -/
def mStr (G : mG) (U : State) : Prop :=
  (∀ i, i < 12 → vk_R RX1 (80 + 2 * i) (mSt.getD i "") (gX G (i + 3)) U) ∧ vk_R RX4 134 "no such camp" (gX G 27) U ∧ vk_S 12 mSl mSb (fun i => gX G (i + 3)) (fun i => gX G (i + 15)) (mA G) U U.heap ∧
  va_Z "java/lang/String" "COMPACT_STRINGS" "Z" (.int 1) (mA G) U U.heap ∧ vx_Zq Bundle.tN "UNASSIGNED_STACK" Bundle.steD (mA G) U U.heap ∧ vx_Zq Bundle.tN "SUPPRESSED_SENTINEL" Bundle.listD (mA G) U U.heap ∧
  (va_Z "jdk/internal/util/Preconditions" "SIOOBE_FORMATTER" "Ljava/util/function/BiFunction;" .null (mA G) U U.heap ∨ va_Z "jdk/internal/util/Preconditions" "SIOOBE_FORMATTER" "Ljava/util/function/BiFunction;" (.ref (gX G 28)) (mA G) U U.heap)
/-- what is known of the world at a method's entry -/
def mWd (G : mG) (U : State) : Prop :=
  va_K (gD G) mCl (mTys G) U ∧ (∀ w ∈ tables_1, mIsNest w = true → va_Nw w U) ∧ gB G ≤ U.heap.size ∧ (va_AO RX3 U ∧ mStr G U) ∧
  (va_Z RX4 "LEAST_SETTINGS" "[I" (.ref (gX G 0)) (mA G) U U.heap ∧ va_T .int (gX G 0) 8 (fun j => .int (mLeast.getD j 0)) (mA G) U U.heap) ∧
  (va_Z RX4 "MOST_SETTINGS" "[I" (.ref (gX G 1)) (mA G) U U.heap ∧ va_T .int (gX G 1) 8 (fun j => .int (mMost.getD j 0)) (mA G) U U.heap) ∧
  (va_X (gX G 2) (gN G) (gS G) U U.heap ∧ gX G 2 < gB G ∧ gN G < 2 ^ 31)
def mRoom (d mc ms : Nat) : Room := { frames := d + 1, cells := mc, slots := ms, locals := 60 * (d + 1) }
abbrev mQ : Type := Option Value → List va_E → Bool → Prop
def mQc (G : mG) (Q : mQ) : Array Value → State → Outcome → State → Prop := fun _ st o t =>
  (∃ (r : Option Value) (μ : List va_E) (ex : Bool), Q r μ ex ∧ o = .returned (r.map (mTr G)) ∧ va_P (gD G) mCl (mWs G μ) t.heap ∧ (ex = true → t.heap.size = gB G + μ.length)) ∧ va_F (mA G) st t
def mFix (G : mG) (I : mI) (p : Program) (s : State) (m : MethodId) (args : Array Value) (meth : Method) (c : Code) : Prop :=
  p.tables.exec = Jvm.exec ∧ c.code = I.2.1 ∧ meth.sig.returnType = I.2.2.2.1 ∧ meth.locks = false ∧ c.maxLocals = I.2.2.1 ∧ s.vm.findClass I.1.cls = some m.cls ∧ meth.name = I.1.name ∧ (∀ w ∈ mGood, w.before args s = true) ∧ mWd G s
/-- at pc of the method I, with these locals and this stack, over this memory: the method comes to its end, with Q; d calls deep, mc cells of ms slots at the most -/
def mT (G : mG) (I : mI) (d mc ms pc : Nat) (lo : List (Option Value)) (st : List Value) (μ : List va_E) (ex : Bool) (nc ns : Nat) (Q : mQ) : Prop :=
  ∀ (p : Program) (e : Env) (s : State) (m : MethodId) (args : Array Value) (below : List Frame) (meth : Method) (c : Code) (H : Heap) (locs : List Loc) (ls : Array Slot),
    mFix G I p s m args meth c → va_P (gD G) mCl (mWs G μ) H → va_S (mA G) s.heap H locs → (ex = true → H.size = gB G + μ.length ∧ H.size = s.heap.size + nc) → lv_has ls I.2.2.1 (mPr G lo) → lo.length = I.2.2.1 → (∀ v, some v ∈ lo → v.category = 1) →
    W p (gL G) e (mRoom d mc ms) s m args below meth c H locs nc ns (MQ below (mQc G Q) args s mc ms (mA G)) (F0 m pc ls (st.map (mTr G)))
/-- where a method begins -/
def mLo (I : mI) (as : List Value) : List (Option Value) := as.map some ++ List.replicate (I.2.2.1 - as.length) none
def mC (G : mG) (I : mI) (d mc ms : Nat) (as : List Value) (μ : List va_E) (ex : Bool) (Q : mQ) : Prop := mT G I d mc ms 0 (mLo I as) [] μ ex 0 0 Q
-- the memory's rows
theorem mWs_get (G : mG) (μ : List va_E) (k : Nat) : (mWs G μ)[k]? = (μ[k]?).map (fun e => (gB G + k, mTrE G e)) := by
  simp [mWs, List.getElem?_mapIdx]
theorem mWs_at {G : mG} {μ : List va_E} {k : Nat} {e : va_E} (h : μ[k]? = some e) : (mWs G μ)[k]? = some (gB G + k, mTrE G e) := by
  rw [mWs_get, h]; rfl
theorem mWs_len (G : mG) (μ : List va_E) : (mWs G μ).length = μ.length := by simp [mWs]
theorem mWs_set (G : mG) (μ : List va_E) (k : Nat) (e : va_E) : mWs G (μ.set k e) = (mWs G μ).set k (gB G + k, mTrE G e) := by
  apply List.ext_getElem?
  intro j
  rw [mWs_get, List.getElem?_set, List.getElem?_set, mWs_get, mWs_len]
  by_cases h : k = j
  · subst h
    by_cases hl : k < μ.length
    · simp [hl]
    · simp [hl]
  · simp [h]
theorem mWs_push (G : mG) (μ : List va_E) (e : va_E) : mWs G (μ ++ [e]) = mWs G μ ++ [(gB G + μ.length, mTrE G e)] := by
  simp [mWs, List.mapIdx_append]
theorem mWs_D (G : mG) (μ : List va_E) : va_D (mA G) (mWs G μ) := by
  refine ⟨fun i j x y hi hj hxy => ?_, fun k q hk => ?_⟩
  · rw [mWs_get] at hi hj
    obtain ⟨a, -, rfl⟩ := Option.map_eq_some_iff.mp hi
    obtain ⟨b, -, rfl⟩ := Option.map_eq_some_iff.mp hj
    have : gB G + i = gB G + j := hxy
    omega
  · rw [mWs_get] at hk
    obtain ⟨a, -, rfl⟩ := Option.map_eq_some_iff.mp hk
    exact Nat.le_add_right _ _
theorem mAd_c (G : mG) (k : Nat) : mAd G (k + 3) = gB G + k := by
  unfold mAd
  rw [if_neg (by omega)]
  rfl
theorem mPr_mem {G : mG} {lo : List (Option Value)} {i : Nat} {v : Value} (h : lo[i]? = some (some v)) : (i, mTr G v) ∈ mPr G lo := by
  refine List.mem_filterMap.mpr ⟨(some v, i), ?_, rfl⟩
  exact List.mk_mem_zipIdx_iff_getElem?.mpr h
theorem mPr_inv {G : mG} {lo : List (Option Value)} {q : Nat × Value} (h : q ∈ mPr G lo) : ∃ v, lo[q.1]? = some (some v) ∧ q.2 = mTr G v := by
  obtain ⟨⟨o, i⟩, h1, h2⟩ := List.mem_filterMap.mp h
  have h3 := List.mk_mem_zipIdx_iff_getElem?.mp h1
  cases o with
  | none => cases h2
  | some v =>
    cases h2
    exact ⟨v, h3, rfl⟩
theorem mPr_at {G : mG} {lo : List (Option Value)} {ls : Array Slot} {nL i : Nat} {v : Value} (h : lv_has ls nL (mPr G lo)) (hi : lo[i]? = some (some v)) : ls[i]? = some (.val (mTr G v)) := h.2.2 (i, mTr G v) (mPr_mem hi)
theorem mTr_cat (G : mG) (v : Value) : (mTr G v).category = v.category := by cases v <;> rfl
/-- storing into a local -/
theorem mPr_set {G : mG} {lo : List (Option Value)} {ls : Array Slot} {nL i : Nat} {v : Value} (hc : ∀ v, some v ∈ lo → v.category = 1) (hi : i < lo.length) (h : lv_has ls nL ((i, mTr G v) :: (mPr G lo).filter (fun q => !(q.1 == i) && !(q.1 + 1 == i && q.2.category == 2)))) : lv_has ls nL (mPr G (lo.set i (some v))) := by
  refine ⟨h.1, h.2.1, fun q hq => ?_⟩
  obtain ⟨w, h1, h2⟩ := mPr_inv hq
  rw [List.getElem?_set] at h1
  by_cases hqi : i = q.1
  · rw [if_pos hqi, if_pos (by omega)] at h1
    cases h1
    have := h.2.2 (i, mTr G v) List.mem_cons_self
    rw [← hqi, h2]
    exact this
  · rw [if_neg hqi] at h1
    have hm : (q.1, mTr G w) ∈ mPr G lo := mPr_mem h1
    have hcat : (mTr G w).category = 1 := by rw [mTr_cat]; exact hc w (List.mem_of_getElem? h1)
    have hf : (q.1, mTr G w) ∈ (mPr G lo).filter (fun q => !(q.1 == i) && !(q.1 + 1 == i && q.2.category == 2)) := by
      refine List.mem_filter.mpr ⟨hm, ?_⟩
      have h9 : ¬ q.1 = i := fun z => hqi z.symm
      simp [hcat, h9]
    rw [h2]
    exact h.2.2 _ (List.mem_cons_of_mem _ hf)
theorem mCat_set {lo : List (Option Value)} {i : Nat} {v : Value} (hc : ∀ v, some v ∈ lo → v.category = 1) (hv : v.category = 1) : ∀ w, some w ∈ lo.set i (some v) → w.category = 1 := by
  intro w hw
  rcases List.mem_or_eq_of_mem_set hw with h | h
  · exact hc w h
  · cases h; exact hv
end
section
/-! ===== the small machine's tables are those of the Statement ===== -/
theorem mG_t {w : Cond} (hg : goodWord w = true) (h : w ∈ tables_1) : w ∈ mGood := List.mem_filter.mpr ⟨List.mem_append_right _ h, hg⟩
theorem mG_s {w : Cond} (hg : goodWord w = true) (h : w ∈ k2_sels lw_privs) : w ∈ mGood := List.mem_filter.mpr ⟨List.mem_append_left _ h, hg⟩
theorem mLay0 : ∀ k, k < 12 → u_lay RX0 TX0 k ∈ tables_1 := fun k hk => match k, hk with
  | 0, _ => List.mem_of_getElem? (i := 175) (by decide +kernel)
  | 1, _ => List.mem_of_getElem? (i := 177) (by decide +kernel)
  | 2, _ => List.mem_of_getElem? (i := 179) (by decide +kernel)
  | 3, _ => List.mem_of_getElem? (i := 181) (by decide +kernel)
  | 4, _ => List.mem_of_getElem? (i := 183) (by decide +kernel)
  | 5, _ => List.mem_of_getElem? (i := 185) (by decide +kernel)
  | 6, _ => List.mem_of_getElem? (i := 187) (by decide +kernel)
  | 7, _ => List.mem_of_getElem? (i := 189) (by decide +kernel)
  | 8, _ => List.mem_of_getElem? (i := 191) (by decide +kernel)
  | 9, _ => List.mem_of_getElem? (i := 193) (by decide +kernel)
  | 10, _ => List.mem_of_getElem? (i := 195) (by decide +kernel)
  | 11, _ => List.mem_of_getElem? (i := 197) (by decide +kernel)
  | n + 12, h => absurd h (by omega)
theorem mLay1 : ∀ k, k < 6 → u_lay RX1 TX1 k ∈ tables_1 := fun k hk => match k, hk with
  | 0, _ => List.mem_of_getElem? (i := 102) (by decide +kernel)
  | 1, _ => List.mem_of_getElem? (i := 104) (by decide +kernel)
  | 2, _ => List.mem_of_getElem? (i := 106) (by decide +kernel)
  | 3, _ => List.mem_of_getElem? (i := 108) (by decide +kernel)
  | 4, _ => List.mem_of_getElem? (i := 110) (by decide +kernel)
  | 5, _ => List.mem_of_getElem? (i := 112) (by decide +kernel)
  | n + 6, h => absurd h (by omega)
theorem mLay2 : ∀ k, k < 9 → u_lay RX2 TX2 k ∈ tables_1 := fun k hk => match k, hk with
  | 0, _ => List.mem_of_getElem? (i := 130) (by decide +kernel)
  | 1, _ => List.mem_of_getElem? (i := 132) (by decide +kernel)
  | 2, _ => List.mem_of_getElem? (i := 134) (by decide +kernel)
  | 3, _ => List.mem_of_getElem? (i := 136) (by decide +kernel)
  | 4, _ => List.mem_of_getElem? (i := 138) (by decide +kernel)
  | 5, _ => List.mem_of_getElem? (i := 140) (by decide +kernel)
  | 6, _ => List.mem_of_getElem? (i := 142) (by decide +kernel)
  | 7, _ => List.mem_of_getElem? (i := 144) (by decide +kernel)
  | 8, _ => List.mem_of_getElem? (i := 146) (by decide +kernel)
  | n + 9, h => absurd h (by omega)
theorem mLay3 : ∀ k, k < 9 → u_lay RX3 TX3 k ∈ tables_1 := fun k hk => match k, hk with
  | 0, _ => List.mem_of_getElem? (i := 58) (by decide +kernel)
  | 1, _ => List.mem_of_getElem? (i := 60) (by decide +kernel)
  | 2, _ => List.mem_of_getElem? (i := 62) (by decide +kernel)
  | 3, _ => List.mem_of_getElem? (i := 64) (by decide +kernel)
  | 4, _ => List.mem_of_getElem? (i := 66) (by decide +kernel)
  | 5, _ => List.mem_of_getElem? (i := 68) (by decide +kernel)
  | 6, _ => List.mem_of_getElem? (i := 70) (by decide +kernel)
  | 7, _ => List.mem_of_getElem? (i := 72) (by decide +kernel)
  | 8, _ => List.mem_of_getElem? (i := 74) (by decide +kernel)
  | n + 9, h => absurd h (by omega)
theorem mLay4 : ∀ k, k < 8 → u_lay RX4 TX4 k ∈ tables_1 := fun k hk => match k, hk with
  | 0, _ => List.mem_of_getElem? (i := 209) (by decide +kernel)
  | 1, _ => List.mem_of_getElem? (i := 211) (by decide +kernel)
  | 2, _ => List.mem_of_getElem? (i := 213) (by decide +kernel)
  | 3, _ => List.mem_of_getElem? (i := 215) (by decide +kernel)
  | 4, _ => List.mem_of_getElem? (i := 217) (by decide +kernel)
  | 5, _ => List.mem_of_getElem? (i := 219) (by decide +kernel)
  | 6, _ => List.mem_of_getElem? (i := 221) (by decide +kernel)
  | 7, _ => List.mem_of_getElem? (i := 223) (by decide +kernel)
  | n + 8, h => absurd h (by omega)
theorem mLay5 : ∀ k, k < 27 → u_lay RX5 TX5 k ∈ tables_1 := fun k hk => match k, hk with
  | 0, _ => List.mem_of_getElem? (i := 744) (by decide +kernel)
  | 1, _ => List.mem_of_getElem? (i := 746) (by decide +kernel)
  | 2, _ => List.mem_of_getElem? (i := 748) (by decide +kernel)
  | 3, _ => List.mem_of_getElem? (i := 750) (by decide +kernel)
  | 4, _ => List.mem_of_getElem? (i := 752) (by decide +kernel)
  | 5, _ => List.mem_of_getElem? (i := 754) (by decide +kernel)
  | 6, _ => List.mem_of_getElem? (i := 756) (by decide +kernel)
  | 7, _ => List.mem_of_getElem? (i := 758) (by decide +kernel)
  | 8, _ => List.mem_of_getElem? (i := 760) (by decide +kernel)
  | 9, _ => List.mem_of_getElem? (i := 762) (by decide +kernel)
  | 10, _ => List.mem_of_getElem? (i := 764) (by decide +kernel)
  | 11, _ => List.mem_of_getElem? (i := 766) (by decide +kernel)
  | 12, _ => List.mem_of_getElem? (i := 768) (by decide +kernel)
  | 13, _ => List.mem_of_getElem? (i := 770) (by decide +kernel)
  | 14, _ => List.mem_of_getElem? (i := 772) (by decide +kernel)
  | 15, _ => List.mem_of_getElem? (i := 774) (by decide +kernel)
  | 16, _ => List.mem_of_getElem? (i := 776) (by decide +kernel)
  | 17, _ => List.mem_of_getElem? (i := 778) (by decide +kernel)
  | 18, _ => List.mem_of_getElem? (i := 780) (by decide +kernel)
  | 19, _ => List.mem_of_getElem? (i := 782) (by decide +kernel)
  | 20, _ => List.mem_of_getElem? (i := 784) (by decide +kernel)
  | 21, _ => List.mem_of_getElem? (i := 786) (by decide +kernel)
  | 22, _ => List.mem_of_getElem? (i := 788) (by decide +kernel)
  | 23, _ => List.mem_of_getElem? (i := 790) (by decide +kernel)
  | 24, _ => List.mem_of_getElem? (i := 792) (by decide +kernel)
  | 25, _ => List.mem_of_getElem? (i := 794) (by decide +kernel)
  | 26, _ => List.mem_of_getElem? (i := 796) (by decide +kernel)
  | n + 27, h => absurd h (by omega)
/-- a class of the worlds: its words, the types of its fields, their names -/
def mClOk (r : vw_C) : Prop := (∀ w ∈ u_ws r.1 r.2.1 r.2.2, w ∈ mGood) ∧ ∃ ty0 : Nat → FieldType, (∀ k, k < r.2.2 → parseFieldDescriptor (r.2.1 k).2.2.1 = some (ty0 k)) ∧ ∀ a, a < r.2.2 → ∀ b, b < r.2.2 → a ≠ b → (r.2.1 a).2.1 ≠ (r.2.1 b).2.1
theorem mClOk_of {C : String} {T : u_T} {N : Nat} (h : ∀ k, k < N → u_lay C T k ∈ tables_1) (ty0 : Nat → FieldType) (hty : ∀ k, k < N → parseFieldDescriptor (T k).2.2.1 = some (ty0 k)) (hnm : ∀ a, a < N → ∀ b, b < N → a ≠ b → (T a).2.1 ≠ (T b).2.1) : mClOk (C, T, N) := by
  refine ⟨fun w hw => ?_, ty0, hty, hnm⟩
  obtain ⟨k, hk, rfl⟩ := List.mem_map.mp hw
  have h1 := h k (List.mem_range.mp hk)
  refine mG_t ?_ h1
  unfold u_lay
  split <;> rfl
theorem mCl_ok : ∀ (ci : Nat) (r : vw_C), mCl[ci]? = some r → mClOk r := fun ci r h => match ci, h with
  | 0, h => by cases h; exact mClOk_of mLay0 tyX0 tyX0_ok nmX0
  | 1, h => by cases h; exact mClOk_of mLay1 tyX1 tyX1_ok nmX1
  | 2, h => by cases h; exact mClOk_of mLay2 tyX2 tyX2_ok nmX2
  | 3, h => by cases h; exact mClOk_of mLay3 tyX3 tyX3_ok nmX3
  | 4, h => by cases h; exact mClOk_of mLay4 tyX4 tyX4_ok nmX4
  | 5, h => by cases h; exact mClOk_of mLay5 tyX5 tyX5_ok nmX5
  | n + 6, h => by simp at h
def mFlOk (o : Nat) (q : Nat × Nat × Nat × Bool) : Prop := ∃ r : vw_C, mCl[q.2.1]? = some r ∧ q.2.2.1 < r.2.2 ∧ (if q.2.2.2 = true then Cond.fieldLinkNest (mOwn.getD o "") q.1 (r.2.1 q.2.2.1).1 (r.2.1 q.2.2.1).2.1 (r.2.1 q.2.2.1).2.2.1 RX4 ∈ tables_1 else Cond.fieldLink (mOwn.getD o "") q.1 (r.2.1 q.2.2.1).1 (r.2.1 q.2.2.1).2.1 (r.2.1 q.2.2.1).2.2.1 ∈ tables_1)
theorem mFl0_0 : mFlOk 0 (68, 3, 1, true) := ⟨_, rfl, by decide, List.mem_of_getElem? (i := 35) (by decide +kernel)⟩
theorem mFl0_1 : mFlOk 0 (71, 3, 2, true) := ⟨_, rfl, by decide, List.mem_of_getElem? (i := 37) (by decide +kernel)⟩
theorem mFl0_2 : mFlOk 0 (53, 3, 3, true) := ⟨_, rfl, by decide, List.mem_of_getElem? (i := 39) (by decide +kernel)⟩
theorem mFl0_3 : mFlOk 0 (54, 3, 4, true) := ⟨_, rfl, by decide, List.mem_of_getElem? (i := 41) (by decide +kernel)⟩
theorem mFl0_4 : mFlOk 0 (58, 3, 5, true) := ⟨_, rfl, by decide, List.mem_of_getElem? (i := 45) (by decide +kernel)⟩
theorem mFl0_5 : mFlOk 0 (61, 3, 6, true) := ⟨_, rfl, by decide, List.mem_of_getElem? (i := 48) (by decide +kernel)⟩
theorem mFl0_6 : mFlOk 0 (52, 3, 7, true) := ⟨_, rfl, by decide, List.mem_of_getElem? (i := 51) (by decide +kernel)⟩
theorem mFl0_7 : mFlOk 0 (43, 3, 8, true) := ⟨_, rfl, by decide, List.mem_of_getElem? (i := 55) (by decide +kernel)⟩
theorem mFl0_8 : mFlOk 0 (9, 0, 0, false) := ⟨_, rfl, by decide, List.mem_of_getElem? (i := 155) (by decide +kernel)⟩
theorem mFl0_9 : mFlOk 0 (15, 0, 1, false) := ⟨_, rfl, by decide, List.mem_of_getElem? (i := 156) (by decide +kernel)⟩
theorem mFl0_10 : mFlOk 0 (18, 0, 2, false) := ⟨_, rfl, by decide, List.mem_of_getElem? (i := 157) (by decide +kernel)⟩
theorem mFl0_11 : mFlOk 0 (21, 0, 3, false) := ⟨_, rfl, by decide, List.mem_of_getElem? (i := 159) (by decide +kernel)⟩
theorem mFl0_12 : mFlOk 0 (25, 0, 4, false) := ⟨_, rfl, by decide, List.mem_of_getElem? (i := 160) (by decide +kernel)⟩
theorem mFl0_13 : mFlOk 0 (28, 0, 5, false) := ⟨_, rfl, by decide, List.mem_of_getElem? (i := 162) (by decide +kernel)⟩
theorem mFl0_14 : mFlOk 0 (31, 0, 6, false) := ⟨_, rfl, by decide, List.mem_of_getElem? (i := 164) (by decide +kernel)⟩
theorem mFl0_15 : mFlOk 0 (34, 0, 7, false) := ⟨_, rfl, by decide, List.mem_of_getElem? (i := 166) (by decide +kernel)⟩
theorem mFl0_16 : mFlOk 0 (37, 0, 8, false) := ⟨_, rfl, by decide, List.mem_of_getElem? (i := 168) (by decide +kernel)⟩
theorem mFl0_17 : mFlOk 0 (40, 0, 9, false) := ⟨_, rfl, by decide, List.mem_of_getElem? (i := 169) (by decide +kernel)⟩
theorem mFl0_18 : mFlOk 0 (119, 0, 10, false) := ⟨_, rfl, by decide, List.mem_of_getElem? (i := 171) (by decide +kernel)⟩
theorem mFl0_19 : mFlOk 0 (122, 0, 11, false) := ⟨_, rfl, by decide, List.mem_of_getElem? (i := 173) (by decide +kernel)⟩
theorem mFlA0 : ∀ q ∈ mFl 0, mFlOk 0 q := List.forall_mem_cons.mpr ⟨mFl0_0, List.forall_mem_cons.mpr ⟨mFl0_1, List.forall_mem_cons.mpr ⟨mFl0_2, List.forall_mem_cons.mpr ⟨mFl0_3, List.forall_mem_cons.mpr ⟨mFl0_4, List.forall_mem_cons.mpr ⟨mFl0_5, List.forall_mem_cons.mpr ⟨mFl0_6, List.forall_mem_cons.mpr ⟨mFl0_7, List.forall_mem_cons.mpr ⟨mFl0_8, List.forall_mem_cons.mpr ⟨mFl0_9, List.forall_mem_cons.mpr ⟨mFl0_10, List.forall_mem_cons.mpr ⟨mFl0_11, List.forall_mem_cons.mpr ⟨mFl0_12, List.forall_mem_cons.mpr ⟨mFl0_13, List.forall_mem_cons.mpr ⟨mFl0_14, List.forall_mem_cons.mpr ⟨mFl0_15, List.forall_mem_cons.mpr ⟨mFl0_16, List.forall_mem_cons.mpr ⟨mFl0_17, List.forall_mem_cons.mpr ⟨mFl0_18, List.forall_mem_cons.mpr ⟨mFl0_19, fun _ h => absurd h List.not_mem_nil⟩⟩⟩⟩⟩⟩⟩⟩⟩⟩⟩⟩⟩⟩⟩⟩⟩⟩⟩⟩
theorem mFl1_0 : mFlOk 1 (9, 1, 0, false) := ⟨_, rfl, by decide, List.mem_of_getElem? (i := 91) (by decide +kernel)⟩
theorem mFl1_1 : mFlOk 1 (25, 1, 1, false) := ⟨_, rfl, by decide, List.mem_of_getElem? (i := 92) (by decide +kernel)⟩
theorem mFl1_2 : mFlOk 1 (15, 1, 2, false) := ⟨_, rfl, by decide, List.mem_of_getElem? (i := 94) (by decide +kernel)⟩
theorem mFl1_3 : mFlOk 1 (19, 1, 3, false) := ⟨_, rfl, by decide, List.mem_of_getElem? (i := 96) (by decide +kernel)⟩
theorem mFl1_4 : mFlOk 1 (22, 1, 4, false) := ⟨_, rfl, by decide, List.mem_of_getElem? (i := 98) (by decide +kernel)⟩
theorem mFl1_5 : mFlOk 1 (29, 1, 5, false) := ⟨_, rfl, by decide, List.mem_of_getElem? (i := 100) (by decide +kernel)⟩
theorem mFlA1 : ∀ q ∈ mFl 1, mFlOk 1 q := List.forall_mem_cons.mpr ⟨mFl1_0, List.forall_mem_cons.mpr ⟨mFl1_1, List.forall_mem_cons.mpr ⟨mFl1_2, List.forall_mem_cons.mpr ⟨mFl1_3, List.forall_mem_cons.mpr ⟨mFl1_4, List.forall_mem_cons.mpr ⟨mFl1_5, fun _ h => absurd h List.not_mem_nil⟩⟩⟩⟩⟩⟩
theorem mFl2_0 : mFlOk 2 (73, 3, 0, true) := ⟨_, rfl, by decide, List.mem_of_getElem? (i := 32) (by decide +kernel)⟩
theorem mFl2_1 : mFlOk 2 (90, 3, 4, true) := ⟨_, rfl, by decide, List.mem_of_getElem? (i := 42) (by decide +kernel)⟩
theorem mFl2_2 : mFlOk 2 (87, 3, 7, true) := ⟨_, rfl, by decide, List.mem_of_getElem? (i := 52) (by decide +kernel)⟩
theorem mFl2_3 : mFlOk 2 (102, 3, 8, true) := ⟨_, rfl, by decide, List.mem_of_getElem? (i := 56) (by decide +kernel)⟩
theorem mFl2_4 : mFlOk 2 (130, 1, 2, true) := ⟨_, rfl, by decide, List.mem_of_getElem? (i := 95) (by decide +kernel)⟩
theorem mFl2_5 : mFlOk 2 (139, 1, 3, true) := ⟨_, rfl, by decide, List.mem_of_getElem? (i := 97) (by decide +kernel)⟩
theorem mFl2_6 : mFlOk 2 (136, 1, 4, true) := ⟨_, rfl, by decide, List.mem_of_getElem? (i := 99) (by decide +kernel)⟩
theorem mFl2_7 : mFlOk 2 (133, 1, 5, true) := ⟨_, rfl, by decide, List.mem_of_getElem? (i := 101) (by decide +kernel)⟩
theorem mFl2_8 : mFlOk 2 (12, 2, 0, false) := ⟨_, rfl, by decide, List.mem_of_getElem? (i := 118) (by decide +kernel)⟩
theorem mFl2_9 : mFlOk 2 (21, 2, 1, false) := ⟨_, rfl, by decide, List.mem_of_getElem? (i := 120) (by decide +kernel)⟩
theorem mFl2_10 : mFlOk 2 (36, 2, 2, false) := ⟨_, rfl, by decide, List.mem_of_getElem? (i := 122) (by decide +kernel)⟩
theorem mFl2_11 : mFlOk 2 (40, 2, 3, false) := ⟨_, rfl, by decide, List.mem_of_getElem? (i := 123) (by decide +kernel)⟩
theorem mFl2_12 : mFlOk 2 (105, 2, 4, false) := ⟨_, rfl, by decide, List.mem_of_getElem? (i := 125) (by decide +kernel)⟩
theorem mFl2_13 : mFlOk 2 (108, 2, 5, false) := ⟨_, rfl, by decide, List.mem_of_getElem? (i := 126) (by decide +kernel)⟩
theorem mFl2_14 : mFlOk 2 (111, 2, 6, false) := ⟨_, rfl, by decide, List.mem_of_getElem? (i := 127) (by decide +kernel)⟩
theorem mFl2_15 : mFlOk 2 (25, 2, 7, false) := ⟨_, rfl, by decide, List.mem_of_getElem? (i := 128) (by decide +kernel)⟩
theorem mFl2_16 : mFlOk 2 (29, 2, 8, false) := ⟨_, rfl, by decide, List.mem_of_getElem? (i := 129) (by decide +kernel)⟩
theorem mFlA2 : ∀ q ∈ mFl 2, mFlOk 2 q := List.forall_mem_cons.mpr ⟨mFl2_0, List.forall_mem_cons.mpr ⟨mFl2_1, List.forall_mem_cons.mpr ⟨mFl2_2, List.forall_mem_cons.mpr ⟨mFl2_3, List.forall_mem_cons.mpr ⟨mFl2_4, List.forall_mem_cons.mpr ⟨mFl2_5, List.forall_mem_cons.mpr ⟨mFl2_6, List.forall_mem_cons.mpr ⟨mFl2_7, List.forall_mem_cons.mpr ⟨mFl2_8, List.forall_mem_cons.mpr ⟨mFl2_9, List.forall_mem_cons.mpr ⟨mFl2_10, List.forall_mem_cons.mpr ⟨mFl2_11, List.forall_mem_cons.mpr ⟨mFl2_12, List.forall_mem_cons.mpr ⟨mFl2_13, List.forall_mem_cons.mpr ⟨mFl2_14, List.forall_mem_cons.mpr ⟨mFl2_15, List.forall_mem_cons.mpr ⟨mFl2_16, fun _ h => absurd h List.not_mem_nil⟩⟩⟩⟩⟩⟩⟩⟩⟩⟩⟩⟩⟩⟩⟩⟩⟩
theorem mFl3_0 : mFlOk 3 (33, 3, 0, false) := ⟨_, rfl, by decide, List.mem_of_getElem? (i := 31) (by decide +kernel)⟩
theorem mFl3_1 : mFlOk 3 (9, 3, 1, false) := ⟨_, rfl, by decide, List.mem_of_getElem? (i := 34) (by decide +kernel)⟩
theorem mFl3_2 : mFlOk 3 (15, 3, 2, false) := ⟨_, rfl, by decide, List.mem_of_getElem? (i := 36) (by decide +kernel)⟩
theorem mFl3_3 : mFlOk 3 (18, 3, 3, false) := ⟨_, rfl, by decide, List.mem_of_getElem? (i := 38) (by decide +kernel)⟩
theorem mFl3_4 : mFlOk 3 (43, 3, 4, false) := ⟨_, rfl, by decide, List.mem_of_getElem? (i := 40) (by decide +kernel)⟩
theorem mFl3_5 : mFlOk 3 (21, 3, 5, false) := ⟨_, rfl, by decide, List.mem_of_getElem? (i := 44) (by decide +kernel)⟩
theorem mFl3_6 : mFlOk 3 (24, 3, 6, false) := ⟨_, rfl, by decide, List.mem_of_getElem? (i := 47) (by decide +kernel)⟩
theorem mFl3_7 : mFlOk 3 (27, 3, 7, false) := ⟨_, rfl, by decide, List.mem_of_getElem? (i := 50) (by decide +kernel)⟩
theorem mFl3_8 : mFlOk 3 (30, 3, 8, false) := ⟨_, rfl, by decide, List.mem_of_getElem? (i := 54) (by decide +kernel)⟩
theorem mFlA3 : ∀ q ∈ mFl 3, mFlOk 3 q := List.forall_mem_cons.mpr ⟨mFl3_0, List.forall_mem_cons.mpr ⟨mFl3_1, List.forall_mem_cons.mpr ⟨mFl3_2, List.forall_mem_cons.mpr ⟨mFl3_3, List.forall_mem_cons.mpr ⟨mFl3_4, List.forall_mem_cons.mpr ⟨mFl3_5, List.forall_mem_cons.mpr ⟨mFl3_6, List.forall_mem_cons.mpr ⟨mFl3_7, List.forall_mem_cons.mpr ⟨mFl3_8, fun _ h => absurd h List.not_mem_nil⟩⟩⟩⟩⟩⟩⟩⟩⟩
theorem mFl4_0 : mFlOk 4 (79, 3, 0, true) := ⟨_, rfl, by decide, List.mem_of_getElem? (i := 33) (by decide +kernel)⟩
theorem mFl4_1 : mFlOk 4 (99, 3, 4, true) := ⟨_, rfl, by decide, List.mem_of_getElem? (i := 43) (by decide +kernel)⟩
theorem mFl4_2 : mFlOk 4 (142, 3, 5, true) := ⟨_, rfl, by decide, List.mem_of_getElem? (i := 46) (by decide +kernel)⟩
theorem mFl4_3 : mFlOk 4 (139, 3, 6, true) := ⟨_, rfl, by decide, List.mem_of_getElem? (i := 49) (by decide +kernel)⟩
theorem mFl4_4 : mFlOk 4 (86, 3, 7, true) := ⟨_, rfl, by decide, List.mem_of_getElem? (i := 53) (by decide +kernel)⟩
theorem mFl4_5 : mFlOk 4 (93, 3, 8, true) := ⟨_, rfl, by decide, List.mem_of_getElem? (i := 57) (by decide +kernel)⟩
theorem mFl4_6 : mFlOk 4 (45, 1, 1, true) := ⟨_, rfl, by decide, List.mem_of_getElem? (i := 93) (by decide +kernel)⟩
theorem mFl4_7 : mFlOk 4 (41, 2, 0, true) := ⟨_, rfl, by decide, List.mem_of_getElem? (i := 119) (by decide +kernel)⟩
theorem mFl4_8 : mFlOk 4 (65, 2, 1, true) := ⟨_, rfl, by decide, List.mem_of_getElem? (i := 121) (by decide +kernel)⟩
theorem mFl4_9 : mFlOk 4 (72, 2, 3, true) := ⟨_, rfl, by decide, List.mem_of_getElem? (i := 124) (by decide +kernel)⟩
theorem mFl4_10 : mFlOk 4 (152, 0, 2, true) := ⟨_, rfl, by decide, List.mem_of_getElem? (i := 158) (by decide +kernel)⟩
theorem mFl4_11 : mFlOk 4 (155, 0, 4, true) := ⟨_, rfl, by decide, List.mem_of_getElem? (i := 161) (by decide +kernel)⟩
theorem mFl4_12 : mFlOk 4 (156, 0, 5, true) := ⟨_, rfl, by decide, List.mem_of_getElem? (i := 163) (by decide +kernel)⟩
theorem mFl4_13 : mFlOk 4 (159, 0, 6, true) := ⟨_, rfl, by decide, List.mem_of_getElem? (i := 165) (by decide +kernel)⟩
theorem mFl4_14 : mFlOk 4 (180, 0, 7, true) := ⟨_, rfl, by decide, List.mem_of_getElem? (i := 167) (by decide +kernel)⟩
theorem mFl4_15 : mFlOk 4 (165, 0, 9, true) := ⟨_, rfl, by decide, List.mem_of_getElem? (i := 170) (by decide +kernel)⟩
theorem mFl4_16 : mFlOk 4 (194, 0, 10, true) := ⟨_, rfl, by decide, List.mem_of_getElem? (i := 172) (by decide +kernel)⟩
theorem mFl4_17 : mFlOk 4 (197, 0, 11, true) := ⟨_, rfl, by decide, List.mem_of_getElem? (i := 174) (by decide +kernel)⟩
theorem mFl4_18 : mFlOk 4 (10, 4, 0, false) := ⟨_, rfl, by decide, List.mem_of_getElem? (i := 201) (by decide +kernel)⟩
theorem mFl4_19 : mFlOk 4 (16, 4, 1, false) := ⟨_, rfl, by decide, List.mem_of_getElem? (i := 202) (by decide +kernel)⟩
theorem mFl4_20 : mFlOk 4 (122, 4, 2, false) := ⟨_, rfl, by decide, List.mem_of_getElem? (i := 203) (by decide +kernel)⟩
theorem mFl4_21 : mFlOk 4 (125, 4, 3, false) := ⟨_, rfl, by decide, List.mem_of_getElem? (i := 204) (by decide +kernel)⟩
theorem mFl4_22 : mFlOk 4 (23, 4, 4, false) := ⟨_, rfl, by decide, List.mem_of_getElem? (i := 205) (by decide +kernel)⟩
theorem mFl4_23 : mFlOk 4 (30, 4, 5, false) := ⟨_, rfl, by decide, List.mem_of_getElem? (i := 206) (by decide +kernel)⟩
theorem mFl4_24 : mFlOk 4 (34, 4, 6, false) := ⟨_, rfl, by decide, List.mem_of_getElem? (i := 207) (by decide +kernel)⟩
theorem mFl4_25 : mFlOk 4 (37, 4, 7, false) := ⟨_, rfl, by decide, List.mem_of_getElem? (i := 208) (by decide +kernel)⟩
theorem mFlA4 : ∀ q ∈ mFl 4, mFlOk 4 q := List.forall_mem_cons.mpr ⟨mFl4_0, List.forall_mem_cons.mpr ⟨mFl4_1, List.forall_mem_cons.mpr ⟨mFl4_2, List.forall_mem_cons.mpr ⟨mFl4_3, List.forall_mem_cons.mpr ⟨mFl4_4, List.forall_mem_cons.mpr ⟨mFl4_5, List.forall_mem_cons.mpr ⟨mFl4_6, List.forall_mem_cons.mpr ⟨mFl4_7, List.forall_mem_cons.mpr ⟨mFl4_8, List.forall_mem_cons.mpr ⟨mFl4_9, List.forall_mem_cons.mpr ⟨mFl4_10, List.forall_mem_cons.mpr ⟨mFl4_11, List.forall_mem_cons.mpr ⟨mFl4_12, List.forall_mem_cons.mpr ⟨mFl4_13, List.forall_mem_cons.mpr ⟨mFl4_14, List.forall_mem_cons.mpr ⟨mFl4_15, List.forall_mem_cons.mpr ⟨mFl4_16, List.forall_mem_cons.mpr ⟨mFl4_17, List.forall_mem_cons.mpr ⟨mFl4_18, List.forall_mem_cons.mpr ⟨mFl4_19, List.forall_mem_cons.mpr ⟨mFl4_20, List.forall_mem_cons.mpr ⟨mFl4_21, List.forall_mem_cons.mpr ⟨mFl4_22, List.forall_mem_cons.mpr ⟨mFl4_23, List.forall_mem_cons.mpr ⟨mFl4_24, List.forall_mem_cons.mpr ⟨mFl4_25, fun _ h => absurd h List.not_mem_nil⟩⟩⟩⟩⟩⟩⟩⟩⟩⟩⟩⟩⟩⟩⟩⟩⟩⟩⟩⟩⟩⟩⟩⟩⟩⟩
theorem mFl5_0 : mFlOk 5 (61, 5, 0, false) := ⟨_, rfl, by decide, List.mem_of_getElem? (i := 717) (by decide +kernel)⟩
theorem mFl5_1 : mFlOk 5 (7, 5, 1, false) := ⟨_, rfl, by decide, List.mem_of_getElem? (i := 718) (by decide +kernel)⟩
theorem mFl5_2 : mFlOk 5 (13, 5, 2, false) := ⟨_, rfl, by decide, List.mem_of_getElem? (i := 719) (by decide +kernel)⟩
theorem mFl5_3 : mFlOk 5 (16, 5, 3, false) := ⟨_, rfl, by decide, List.mem_of_getElem? (i := 720) (by decide +kernel)⟩
theorem mFl5_4 : mFlOk 5 (83, 5, 4, false) := ⟨_, rfl, by decide, List.mem_of_getElem? (i := 721) (by decide +kernel)⟩
theorem mFl5_5 : mFlOk 5 (19, 5, 5, false) := ⟨_, rfl, by decide, List.mem_of_getElem? (i := 722) (by decide +kernel)⟩
theorem mFl5_6 : mFlOk 5 (117, 5, 6, false) := ⟨_, rfl, by decide, List.mem_of_getElem? (i := 723) (by decide +kernel)⟩
theorem mFl5_7 : mFlOk 5 (129, 5, 7, false) := ⟨_, rfl, by decide, List.mem_of_getElem? (i := 724) (by decide +kernel)⟩
theorem mFl5_8 : mFlOk 5 (126, 5, 8, false) := ⟨_, rfl, by decide, List.mem_of_getElem? (i := 725) (by decide +kernel)⟩
theorem mFl5_9 : mFlOk 5 (123, 5, 9, false) := ⟨_, rfl, by decide, List.mem_of_getElem? (i := 726) (by decide +kernel)⟩
theorem mFl5_10 : mFlOk 5 (139, 5, 10, false) := ⟨_, rfl, by decide, List.mem_of_getElem? (i := 727) (by decide +kernel)⟩
theorem mFl5_11 : mFlOk 5 (23, 5, 11, false) := ⟨_, rfl, by decide, List.mem_of_getElem? (i := 728) (by decide +kernel)⟩
theorem mFl5_12 : mFlOk 5 (26, 5, 12, false) := ⟨_, rfl, by decide, List.mem_of_getElem? (i := 729) (by decide +kernel)⟩
theorem mFl5_13 : mFlOk 5 (29, 5, 13, false) := ⟨_, rfl, by decide, List.mem_of_getElem? (i := 730) (by decide +kernel)⟩
theorem mFl5_14 : mFlOk 5 (149, 5, 14, false) := ⟨_, rfl, by decide, List.mem_of_getElem? (i := 731) (by decide +kernel)⟩
theorem mFl5_15 : mFlOk 5 (155, 5, 15, false) := ⟨_, rfl, by decide, List.mem_of_getElem? (i := 732) (by decide +kernel)⟩
theorem mFl5_16 : mFlOk 5 (152, 5, 16, false) := ⟨_, rfl, by decide, List.mem_of_getElem? (i := 733) (by decide +kernel)⟩
theorem mFl5_17 : mFlOk 5 (32, 5, 17, false) := ⟨_, rfl, by decide, List.mem_of_getElem? (i := 734) (by decide +kernel)⟩
theorem mFl5_18 : mFlOk 5 (35, 5, 18, false) := ⟨_, rfl, by decide, List.mem_of_getElem? (i := 735) (by decide +kernel)⟩
theorem mFl5_19 : mFlOk 5 (38, 5, 19, false) := ⟨_, rfl, by decide, List.mem_of_getElem? (i := 736) (by decide +kernel)⟩
theorem mFl5_20 : mFlOk 5 (41, 5, 20, false) := ⟨_, rfl, by decide, List.mem_of_getElem? (i := 737) (by decide +kernel)⟩
theorem mFl5_21 : mFlOk 5 (44, 5, 21, false) := ⟨_, rfl, by decide, List.mem_of_getElem? (i := 738) (by decide +kernel)⟩
theorem mFl5_22 : mFlOk 5 (48, 5, 22, false) := ⟨_, rfl, by decide, List.mem_of_getElem? (i := 739) (by decide +kernel)⟩
theorem mFl5_23 : mFlOk 5 (51, 5, 23, false) := ⟨_, rfl, by decide, List.mem_of_getElem? (i := 740) (by decide +kernel)⟩
theorem mFl5_24 : mFlOk 5 (55, 5, 24, false) := ⟨_, rfl, by decide, List.mem_of_getElem? (i := 741) (by decide +kernel)⟩
theorem mFl5_25 : mFlOk 5 (182, 5, 25, false) := ⟨_, rfl, by decide, List.mem_of_getElem? (i := 742) (by decide +kernel)⟩
theorem mFl5_26 : mFlOk 5 (58, 5, 26, false) := ⟨_, rfl, by decide, List.mem_of_getElem? (i := 743) (by decide +kernel)⟩
theorem mFlA5 : ∀ q ∈ mFl 5, mFlOk 5 q := List.forall_mem_cons.mpr ⟨mFl5_0, List.forall_mem_cons.mpr ⟨mFl5_1, List.forall_mem_cons.mpr ⟨mFl5_2, List.forall_mem_cons.mpr ⟨mFl5_3, List.forall_mem_cons.mpr ⟨mFl5_4, List.forall_mem_cons.mpr ⟨mFl5_5, List.forall_mem_cons.mpr ⟨mFl5_6, List.forall_mem_cons.mpr ⟨mFl5_7, List.forall_mem_cons.mpr ⟨mFl5_8, List.forall_mem_cons.mpr ⟨mFl5_9, List.forall_mem_cons.mpr ⟨mFl5_10, List.forall_mem_cons.mpr ⟨mFl5_11, List.forall_mem_cons.mpr ⟨mFl5_12, List.forall_mem_cons.mpr ⟨mFl5_13, List.forall_mem_cons.mpr ⟨mFl5_14, List.forall_mem_cons.mpr ⟨mFl5_15, List.forall_mem_cons.mpr ⟨mFl5_16, List.forall_mem_cons.mpr ⟨mFl5_17, List.forall_mem_cons.mpr ⟨mFl5_18, List.forall_mem_cons.mpr ⟨mFl5_19, List.forall_mem_cons.mpr ⟨mFl5_20, List.forall_mem_cons.mpr ⟨mFl5_21, List.forall_mem_cons.mpr ⟨mFl5_22, List.forall_mem_cons.mpr ⟨mFl5_23, List.forall_mem_cons.mpr ⟨mFl5_24, List.forall_mem_cons.mpr ⟨mFl5_25, List.forall_mem_cons.mpr ⟨mFl5_26, fun _ h => absurd h List.not_mem_nil⟩⟩⟩⟩⟩⟩⟩⟩⟩⟩⟩⟩⟩⟩⟩⟩⟩⟩⟩⟩⟩⟩⟩⟩⟩⟩⟩
theorem mFl_ok : ∀ (o : Nat), ∀ q ∈ mFl o, mFlOk o q := fun o => match o with
  | 0 => mFlA0
  | 1 => mFlA1
  | 2 => mFlA2
  | 3 => mFlA3
  | 4 => mFlA4
  | 5 => mFlA5
  | n + 6 => fun _ h => absurd h List.not_mem_nil
/-- a method that is called: its code, its class, its parameters, its result -/
def mJOk (J : mI) : Prop := Cond.code J.1 J.2.1 J.2.2.1 J.2.2.2.1 ∈ mGood ∧ Cond.initialized J.1.cls ∈ mGood ∧ (J.1.cls ≠ "java/lang/invoke/MethodHandle" ∧ J.1.cls ≠ "java/lang/invoke/VarHandle" ∧ (parseMethodDescriptor J.1.desc).map (fun d => d.parameters.length) = some J.2.2.2.2.2) ∧ plainName J.1.cls = true ∧ mOwn.getD J.2.2.2.2.1 "" = J.1.cls
theorem mJ_X0_pitch : mJOk mX0_pitch := ⟨mG_t (by decide +kernel) (List.mem_of_getElem? (i := 525) (by decide +kernel)), mG_t (by decide +kernel) (List.mem_of_getElem? (i := 5) (by decide +kernel)), ⟨by decide +kernel, by decide +kernel, by decide +kernel⟩, by decide, rfl⟩
theorem mJ_X0_live : mJOk mX0_live := ⟨mG_t (by decide +kernel) (List.mem_of_getElem? (i := 529) (by decide +kernel)), mG_t (by decide +kernel) (List.mem_of_getElem? (i := 5) (by decide +kernel)), ⟨by decide +kernel, by decide +kernel, by decide +kernel⟩, by decide, rfl⟩
theorem mJ_X0_liveDay : mJOk mX0_liveDay := ⟨mG_t (by decide +kernel) (List.mem_of_getElem? (i := 533) (by decide +kernel)), mG_t (by decide +kernel) (List.mem_of_getElem? (i := 5) (by decide +kernel)), ⟨by decide +kernel, by decide +kernel, by decide +kernel⟩, by decide, rfl⟩
theorem mJ_X0_isHurt : mJOk mX0_isHurt := ⟨mG_t (by decide +kernel) (List.mem_of_getElem? (i := 537) (by decide +kernel)), mG_t (by decide +kernel) (List.mem_of_getElem? (i := 5) (by decide +kernel)), ⟨by decide +kernel, by decide +kernel, by decide +kernel⟩, by decide, rfl⟩
theorem mJ_X0_held : mJOk mX0_held := ⟨mG_t (by decide +kernel) (List.mem_of_getElem? (i := 541) (by decide +kernel)), mG_t (by decide +kernel) (List.mem_of_getElem? (i := 5) (by decide +kernel)), ⟨by decide +kernel, by decide +kernel, by decide +kernel⟩, by decide, rfl⟩
theorem mJ_X0_decayed : mJOk mX0_decayed := ⟨mG_t (by decide +kernel) (List.mem_of_getElem? (i := 545) (by decide +kernel)), mG_t (by decide +kernel) (List.mem_of_getElem? (i := 5) (by decide +kernel)), ⟨by decide +kernel, by decide +kernel, by decide +kernel⟩, by decide, rfl⟩
theorem mJ_X0_isTooMuch : mJOk mX0_isTooMuch := ⟨mG_t (by decide +kernel) (List.mem_of_getElem? (i := 549) (by decide +kernel)), mG_t (by decide +kernel) (List.mem_of_getElem? (i := 5) (by decide +kernel)), ⟨by decide +kernel, by decide +kernel, by decide +kernel⟩, by decide, rfl⟩
theorem mJ_X0_acute : mJOk mX0_acute := ⟨mG_t (by decide +kernel) (List.mem_of_getElem? (i := 553) (by decide +kernel)), mG_t (by decide +kernel) (List.mem_of_getElem? (i := 5) (by decide +kernel)), ⟨by decide +kernel, by decide +kernel, by decide +kernel⟩, by decide, rfl⟩
theorem mJ_X0_chronic : mJOk mX0_chronic := ⟨mG_t (by decide +kernel) (List.mem_of_getElem? (i := 560) (by decide +kernel)), mG_t (by decide +kernel) (List.mem_of_getElem? (i := 5) (by decide +kernel)), ⟨by decide +kernel, by decide +kernel, by decide +kernel⟩, by decide, rfl⟩
theorem mJ_X0_keepIfBetter : mJOk mX0_keepIfBetter := ⟨mG_t (by decide +kernel) (List.mem_of_getElem? (i := 605) (by decide +kernel)), mG_t (by decide +kernel) (List.mem_of_getElem? (i := 5) (by decide +kernel)), ⟨by decide +kernel, by decide +kernel, by decide +kernel⟩, by decide, rfl⟩
theorem mJ_X0_formOf : mJOk mX0_formOf := ⟨mG_t (by decide +kernel) (List.mem_of_getElem? (i := 576) (by decide +kernel)), mG_t (by decide +kernel) (List.mem_of_getElem? (i := 5) (by decide +kernel)), ⟨by decide +kernel, by decide +kernel, by decide +kernel⟩, by decide, rfl⟩
theorem mJ_X0_tryRows : mJOk mX0_tryRows := ⟨mG_t (by decide +kernel) (List.mem_of_getElem? (i := 601) (by decide +kernel)), mG_t (by decide +kernel) (List.mem_of_getElem? (i := 5) (by decide +kernel)), ⟨by decide +kernel, by decide +kernel, by decide +kernel⟩, by decide, rfl⟩
theorem mJ_X1_isLetter : mJOk mX1_isLetter := ⟨mG_t (by decide +kernel) (List.mem_of_getElem? (i := 248) (by decide +kernel)), mG_t (by decide +kernel) (List.mem_of_getElem? (i := 4) (by decide +kernel)), ⟨by decide +kernel, by decide +kernel, by decide +kernel⟩, by decide, rfl⟩
theorem mJ_X1_endOfWord : mJOk mX1_endOfWord := ⟨mG_t (by decide +kernel) (List.mem_of_getElem? (i := 252) (by decide +kernel)), mG_t (by decide +kernel) (List.mem_of_getElem? (i := 4) (by decide +kernel)), ⟨by decide +kernel, by decide +kernel, by decide +kernel⟩, by decide, rfl⟩
theorem mJ_X1_wordAt : mJOk mX1_wordAt := ⟨mG_t (by decide +kernel) (List.mem_of_getElem? (i := 256) (by decide +kernel)), mG_t (by decide +kernel) (List.mem_of_getElem? (i := 4) (by decide +kernel)), ⟨by decide +kernel, by decide +kernel, by decide +kernel⟩, by decide, rfl⟩
theorem mJ_X1_textOf : mJOk mX1_textOf := ⟨mG_t (by decide +kernel) (List.mem_of_getElem? (i := 259) (by decide +kernel)), mG_t (by decide +kernel) (List.mem_of_getElem? (i := 4) (by decide +kernel)), ⟨by decide +kernel, by decide +kernel, by decide +kernel⟩, by decide, rfl⟩
theorem mJ_X1_isTextAt : mJOk mX1_isTextAt := ⟨mG_t (by decide +kernel) (List.mem_of_getElem? (i := 275) (by decide +kernel)), mG_t (by decide +kernel) (List.mem_of_getElem? (i := 4) (by decide +kernel)), ⟨by decide +kernel, by decide +kernel, by decide +kernel⟩, by decide, rfl⟩
theorem mJ_X1_note : mJOk mX1_note := ⟨mG_t (by decide +kernel) (List.mem_of_getElem? (i := 327) (by decide +kernel)), mG_t (by decide +kernel) (List.mem_of_getElem? (i := 4) (by decide +kernel)), ⟨by decide +kernel, by decide +kernel, by decide +kernel⟩, by decide, rfl⟩
theorem mJ_X1_isDigit : mJOk mX1_isDigit := ⟨mG_t (by decide +kernel) (List.mem_of_getElem? (i := 330) (by decide +kernel)), mG_t (by decide +kernel) (List.mem_of_getElem? (i := 4) (by decide +kernel)), ⟨by decide +kernel, by decide +kernel, by decide +kernel⟩, by decide, rfl⟩
theorem mJ_X1_endOfInt : mJOk mX1_endOfInt := ⟨mG_t (by decide +kernel) (List.mem_of_getElem? (i := 334) (by decide +kernel)), mG_t (by decide +kernel) (List.mem_of_getElem? (i := 4) (by decide +kernel)), ⟨by decide +kernel, by decide +kernel, by decide +kernel⟩, by decide, rfl⟩
theorem mJ_X1_numberAt : mJOk mX1_numberAt := ⟨mG_t (by decide +kernel) (List.mem_of_getElem? (i := 338) (by decide +kernel)), mG_t (by decide +kernel) (List.mem_of_getElem? (i := 4) (by decide +kernel)), ⟨by decide +kernel, by decide +kernel, by decide +kernel⟩, by decide, rfl⟩
theorem mJ_X1_isBlank : mJOk mX1_isBlank := ⟨mG_t (by decide +kernel) (List.mem_of_getElem? (i := 341) (by decide +kernel)), mG_t (by decide +kernel) (List.mem_of_getElem? (i := 4) (by decide +kernel)), ⟨by decide +kernel, by decide +kernel, by decide +kernel⟩, by decide, rfl⟩
theorem mJ_X1_signOf : mJOk mX1_signOf := ⟨mG_t (by decide +kernel) (List.mem_of_getElem? (i := 344) (by decide +kernel)), mG_t (by decide +kernel) (List.mem_of_getElem? (i := 4) (by decide +kernel)), ⟨by decide +kernel, by decide +kernel, by decide +kernel⟩, by decide, rfl⟩
theorem mJ_X1_init : mJOk mX1_init := ⟨mG_t (by decide +kernel) (List.mem_of_getElem? (i := 89) (by decide +kernel)), mG_t (by decide +kernel) (List.mem_of_getElem? (i := 4) (by decide +kernel)), ⟨by decide +kernel, by decide +kernel, by decide +kernel⟩, by decide, rfl⟩
theorem mJ_X3_init : mJOk mX3_init := ⟨mG_t (by decide +kernel) (List.mem_of_getElem? (i := 29) (by decide +kernel)), mG_t (by decide +kernel) (List.mem_of_getElem? (i := 2) (by decide +kernel)), ⟨by decide +kernel, by decide +kernel, by decide +kernel⟩, by decide, rfl⟩
theorem mJ_X3_copyFrom : mJOk mX3_copyFrom := ⟨mG_t (by decide +kernel) (List.mem_of_getElem? (i := 352) (by decide +kernel)), mG_t (by decide +kernel) (List.mem_of_getElem? (i := 2) (by decide +kernel)), ⟨by decide +kernel, by decide +kernel, by decide +kernel⟩, by decide, rfl⟩
theorem mJ_X2_token : mJOk mX2_token := ⟨mG_t (by decide +kernel) (List.mem_of_getElem? (i := 359) (by decide +kernel)), mG_t (by decide +kernel) (List.mem_of_getElem? (i := 3) (by decide +kernel)), ⟨by decide +kernel, by decide +kernel, by decide +kernel⟩, by decide, rfl⟩
theorem mJ_X2_readStatement : mJOk mX2_readStatement := ⟨mG_t (by decide +kernel) (List.mem_of_getElem? (i := 363) (by decide +kernel)), mG_t (by decide +kernel) (List.mem_of_getElem? (i := 3) (by decide +kernel)), ⟨by decide +kernel, by decide +kernel, by decide +kernel⟩, by decide, rfl⟩
theorem mJ_X2_readGroup : mJOk mX2_readGroup := ⟨mG_t (by decide +kernel) (List.mem_of_getElem? (i := 367) (by decide +kernel)), mG_t (by decide +kernel) (List.mem_of_getElem? (i := 3) (by decide +kernel)), ⟨by decide +kernel, by decide +kernel, by decide +kernel⟩, by decide, rfl⟩
theorem mJ_X2_fail : mJOk mX2_fail := ⟨mG_t (by decide +kernel) (List.mem_of_getElem? (i := 371) (by decide +kernel)), mG_t (by decide +kernel) (List.mem_of_getElem? (i := 3) (by decide +kernel)), ⟨by decide +kernel, by decide +kernel, by decide +kernel⟩, by decide, rfl⟩
theorem mJ_X2_step : mJOk mX2_step := ⟨mG_t (by decide +kernel) (List.mem_of_getElem? (i := 375) (by decide +kernel)), mG_t (by decide +kernel) (List.mem_of_getElem? (i := 3) (by decide +kernel)), ⟨by decide +kernel, by decide +kernel, by decide +kernel⟩, by decide, rfl⟩
theorem mJ_X2_takeInt : mJOk mX2_takeInt := ⟨mG_t (by decide +kernel) (List.mem_of_getElem? (i := 379) (by decide +kernel)), mG_t (by decide +kernel) (List.mem_of_getElem? (i := 3) (by decide +kernel)), ⟨by decide +kernel, by decide +kernel, by decide +kernel⟩, by decide, rfl⟩
theorem mJ_X3_addGroup : mJOk mX3_addGroup := ⟨mG_t (by decide +kernel) (List.mem_of_getElem? (i := 383) (by decide +kernel)), mG_t (by decide +kernel) (List.mem_of_getElem? (i := 2) (by decide +kernel)), ⟨by decide +kernel, by decide +kernel, by decide +kernel⟩, by decide, rfl⟩
theorem mJ_X2_readLoad : mJOk mX2_readLoad := ⟨mG_t (by decide +kernel) (List.mem_of_getElem? (i := 387) (by decide +kernel)), mG_t (by decide +kernel) (List.mem_of_getElem? (i := 3) (by decide +kernel)), ⟨by decide +kernel, by decide +kernel, by decide +kernel⟩, by decide, rfl⟩
theorem mJ_X2_readCamp : mJOk mX2_readCamp := ⟨mG_t (by decide +kernel) (List.mem_of_getElem? (i := 391) (by decide +kernel)), mG_t (by decide +kernel) (List.mem_of_getElem? (i := 3) (by decide +kernel)), ⟨by decide +kernel, by decide +kernel, by decide +kernel⟩, by decide, rfl⟩
theorem mJ_X3_addCamp : mJOk mX3_addCamp := ⟨mG_t (by decide +kernel) (List.mem_of_getElem? (i := 395) (by decide +kernel)), mG_t (by decide +kernel) (List.mem_of_getElem? (i := 2) (by decide +kernel)), ⟨by decide +kernel, by decide +kernel, by decide +kernel⟩, by decide, rfl⟩
theorem mJ_X2_readSetting : mJOk mX2_readSetting := ⟨mG_t (by decide +kernel) (List.mem_of_getElem? (i := 399) (by decide +kernel)), mG_t (by decide +kernel) (List.mem_of_getElem? (i := 3) (by decide +kernel)), ⟨by decide +kernel, by decide +kernel, by decide +kernel⟩, by decide, rfl⟩
theorem mJ_X2_readPlan : mJOk mX2_readPlan := ⟨mG_t (by decide +kernel) (List.mem_of_getElem? (i := 407) (by decide +kernel)), mG_t (by decide +kernel) (List.mem_of_getElem? (i := 3) (by decide +kernel)), ⟨by decide +kernel, by decide +kernel, by decide +kernel⟩, by decide, rfl⟩
theorem mJ_X2_openAgain : mJOk mX2_openAgain := ⟨mG_t (by decide +kernel) (List.mem_of_getElem? (i := 411) (by decide +kernel)), mG_t (by decide +kernel) (List.mem_of_getElem? (i := 3) (by decide +kernel)), ⟨by decide +kernel, by decide +kernel, by decide +kernel⟩, by decide, rfl⟩
theorem mJ_X2_take : mJOk mX2_take := ⟨mG_t (by decide +kernel) (List.mem_of_getElem? (i := 415) (by decide +kernel)), mG_t (by decide +kernel) (List.mem_of_getElem? (i := 3) (by decide +kernel)), ⟨by decide +kernel, by decide +kernel, by decide +kernel⟩, by decide, rfl⟩
theorem mJ_X2_closeAgain : mJOk mX2_closeAgain := ⟨mG_t (by decide +kernel) (List.mem_of_getElem? (i := 419) (by decide +kernel)), mG_t (by decide +kernel) (List.mem_of_getElem? (i := 3) (by decide +kernel)), ⟨by decide +kernel, by decide +kernel, by decide +kernel⟩, by decide, rfl⟩
theorem mJ_X3_repeatKinds : mJOk mX3_repeatKinds := ⟨mG_t (by decide +kernel) (List.mem_of_getElem? (i := 423) (by decide +kernel)), mG_t (by decide +kernel) (List.mem_of_getElem? (i := 2) (by decide +kernel)), ⟨by decide +kernel, by decide +kernel, by decide +kernel⟩, by decide, rfl⟩
theorem mJ_X2_readDays : mJOk mX2_readDays := ⟨mG_t (by decide +kernel) (List.mem_of_getElem? (i := 427) (by decide +kernel)), mG_t (by decide +kernel) (List.mem_of_getElem? (i := 3) (by decide +kernel)), ⟨by decide +kernel, by decide +kernel, by decide +kernel⟩, by decide, rfl⟩
theorem mJ_X3_fillKinds : mJOk mX3_fillKinds := ⟨mG_t (by decide +kernel) (List.mem_of_getElem? (i := 431) (by decide +kernel)), mG_t (by decide +kernel) (List.mem_of_getElem? (i := 2) (by decide +kernel)), ⟨by decide +kernel, by decide +kernel, by decide +kernel⟩, by decide, rfl⟩
theorem mJ_X2_init : mJOk mX2_init := ⟨mG_t (by decide +kernel) (List.mem_of_getElem? (i := 83) (by decide +kernel)), mG_t (by decide +kernel) (List.mem_of_getElem? (i := 3) (by decide +kernel)), ⟨by decide +kernel, by decide +kernel, by decide +kernel⟩, by decide, rfl⟩
theorem mJ_X0_init : mJOk mX0_init := ⟨mG_t (by decide +kernel) (List.mem_of_getElem? (i := 153) (by decide +kernel)), mG_t (by decide +kernel) (List.mem_of_getElem? (i := 5) (by decide +kernel)), ⟨by decide +kernel, by decide +kernel, by decide +kernel⟩, by decide, rfl⟩
theorem mJ_X1_append : mJOk mX1_append := ⟨mG_t (by decide +kernel) (List.mem_of_getElem? (i := 233) (by decide +kernel)), mG_t (by decide +kernel) (List.mem_of_getElem? (i := 4) (by decide +kernel)), ⟨by decide +kernel, by decide +kernel, by decide +kernel⟩, by decide, rfl⟩
theorem mJ_X1_split : mJOk mX1_split := ⟨mG_t (by decide +kernel) (List.mem_of_getElem? (i := 245) (by decide +kernel)), mG_t (by decide +kernel) (List.mem_of_getElem? (i := 4) (by decide +kernel)), ⟨by decide +kernel, by decide +kernel, by decide +kernel⟩, by decide, rfl⟩
theorem mJ_X2_readText : mJOk mX2_readText := ⟨mG_t (by decide +kernel) (List.mem_of_getElem? (i := 348) (by decide +kernel)), mG_t (by decide +kernel) (List.mem_of_getElem? (i := 3) (by decide +kernel)), ⟨by decide +kernel, by decide +kernel, by decide +kernel⟩, by decide, rfl⟩
theorem mJ_X4_remember : mJOk mX4_remember := ⟨mG_t (by decide +kernel) (List.mem_of_getElem? (i := 435) (by decide +kernel)), mG_t (by decide +kernel) (List.mem_of_getElem? (i := 1) (by decide +kernel)), ⟨by decide +kernel, by decide +kernel, by decide +kernel⟩, by decide, rfl⟩
theorem mJ_X4_canBeAtFirst : mJOk mX4_canBeAtFirst := ⟨mG_t (by decide +kernel) (List.mem_of_getElem? (i := 450) (by decide +kernel)), mG_t (by decide +kernel) (List.mem_of_getElem? (i := 1) (by decide +kernel)), ⟨by decide +kernel, by decide +kernel, by decide +kernel⟩, by decide, rfl⟩
theorem mJ_X4_canBeSetting : mJOk mX4_canBeSetting := ⟨mG_t (by decide +kernel) (List.mem_of_getElem? (i := 462) (by decide +kernel)), mG_t (by decide +kernel) (List.mem_of_getElem? (i := 1) (by decide +kernel)), ⟨by decide +kernel, by decide +kernel, by decide +kernel⟩, by decide, rfl⟩
theorem mJ_X4_areDays : mJOk mX4_areDays := ⟨mG_t (by decide +kernel) (List.mem_of_getElem? (i := 471) (by decide +kernel)), mG_t (by decide +kernel) (List.mem_of_getElem? (i := 1) (by decide +kernel)), ⟨by decide +kernel, by decide +kernel, by decide +kernel⟩, by decide, rfl⟩
theorem mJ_X4_isDay : mJOk mX4_isDay := ⟨mG_t (by decide +kernel) (List.mem_of_getElem? (i := 474) (by decide +kernel)), mG_t (by decide +kernel) (List.mem_of_getElem? (i := 1) (by decide +kernel)), ⟨by decide +kernel, by decide +kernel, by decide +kernel⟩, by decide, rfl⟩
theorem mJ_X3_hasCamp : mJOk mX3_hasCamp := ⟨mG_t (by decide +kernel) (List.mem_of_getElem? (i := 483) (by decide +kernel)), mG_t (by decide +kernel) (List.mem_of_getElem? (i := 2) (by decide +kernel)), ⟨by decide +kernel, by decide +kernel, by decide +kernel⟩, by decide, rfl⟩
theorem mJ_X3_dropCamp : mJOk mX3_dropCamp := ⟨mG_t (by decide +kernel) (List.mem_of_getElem? (i := 487) (by decide +kernel)), mG_t (by decide +kernel) (List.mem_of_getElem? (i := 2) (by decide +kernel)), ⟨by decide +kernel, by decide +kernel, by decide +kernel⟩, by decide, rfl⟩
theorem mJ_X3_hasGroup : mJOk mX3_hasGroup := ⟨mG_t (by decide +kernel) (List.mem_of_getElem? (i := 495) (by decide +kernel)), mG_t (by decide +kernel) (List.mem_of_getElem? (i := 2) (by decide +kernel)), ⟨by decide +kernel, by decide +kernel, by decide +kernel⟩, by decide, rfl⟩
theorem mJ_X3_countOthers : mJOk mX3_countOthers := ⟨mG_t (by decide +kernel) (List.mem_of_getElem? (i := 499) (by decide +kernel)), mG_t (by decide +kernel) (List.mem_of_getElem? (i := 2) (by decide +kernel)), ⟨by decide +kernel, by decide +kernel, by decide +kernel⟩, by decide, rfl⟩
theorem mJ_X4_countNumber : mJOk mX4_countNumber := ⟨mG_t (by decide +kernel) (List.mem_of_getElem? (i := 512) (by decide +kernel)), mG_t (by decide +kernel) (List.mem_of_getElem? (i := 1) (by decide +kernel)), ⟨by decide +kernel, by decide +kernel, by decide +kernel⟩, by decide, rfl⟩
theorem mJ_X0_follow : mJOk mX0_follow := ⟨mG_t (by decide +kernel) (List.mem_of_getElem? (i := 520) (by decide +kernel)), mG_t (by decide +kernel) (List.mem_of_getElem? (i := 5) (by decide +kernel)), ⟨by decide +kernel, by decide +kernel, by decide +kernel⟩, by decide, rfl⟩
theorem mJ_X4_formAsTold : mJOk mX4_formAsTold := ⟨mG_t (by decide +kernel) (List.mem_of_getElem? (i := 572) (by decide +kernel)), mG_t (by decide +kernel) (List.mem_of_getElem? (i := 1) (by decide +kernel)), ⟨by decide +kernel, by decide +kernel, by decide +kernel⟩, by decide, rfl⟩
theorem mJ_X4_greatestBeside : mJOk mX4_greatestBeside := ⟨mG_t (by decide +kernel) (List.mem_of_getElem? (i := 615) (by decide +kernel)), mG_t (by decide +kernel) (List.mem_of_getElem? (i := 1) (by decide +kernel)), ⟨by decide +kernel, by decide +kernel, by decide +kernel⟩, by decide, rfl⟩
theorem mJ_X5_isIn : mJOk mX5_isIn := ⟨mG_t (by decide +kernel) (List.mem_of_getElem? (i := 809) (by decide +kernel)), mG_t (by decide +kernel) (List.mem_of_getElem? (i := 6) (by decide +kernel)), ⟨by decide +kernel, by decide +kernel, by decide +kernel⟩, by decide, rfl⟩
theorem mJ_X5_groups : mJOk mX5_groups := ⟨mG_t (by decide +kernel) (List.mem_of_getElem? (i := 813) (by decide +kernel)), mG_t (by decide +kernel) (List.mem_of_getElem? (i := 6) (by decide +kernel)), ⟨by decide +kernel, by decide +kernel, by decide +kernel⟩, by decide, rfl⟩
theorem mJ_X5_keeps : mJOk mX5_keeps := ⟨mG_t (by decide +kernel) (List.mem_of_getElem? (i := 817) (by decide +kernel)), mG_t (by decide +kernel) (List.mem_of_getElem? (i := 6) (by decide +kernel)), ⟨by decide +kernel, by decide +kernel, by decide +kernel⟩, by decide, rfl⟩
theorem mJ_X5_comes : mJOk mX5_comes := ⟨mG_t (by decide +kernel) (List.mem_of_getElem? (i := 821) (by decide +kernel)), mG_t (by decide +kernel) (List.mem_of_getElem? (i := 6) (by decide +kernel)), ⟨by decide +kernel, by decide +kernel, by decide +kernel⟩, by decide, rfl⟩
theorem mJ_X5_maySet : mJOk mX5_maySet := ⟨mG_t (by decide +kernel) (List.mem_of_getElem? (i := 832) (by decide +kernel)), mG_t (by decide +kernel) (List.mem_of_getElem? (i := 6) (by decide +kernel)), ⟨by decide +kernel, by decide +kernel, by decide +kernel⟩, by decide, rfl⟩
theorem mJ_X5_of : mJOk mX5_of := ⟨mG_t (by decide +kernel) (List.mem_of_getElem? (i := 836) (by decide +kernel)), mG_t (by decide +kernel) (List.mem_of_getElem? (i := 6) (by decide +kernel)), ⟨by decide +kernel, by decide +kernel, by decide +kernel⟩, by decide, rfl⟩
theorem mJ_X5_isDay : mJOk mX5_isDay := ⟨mG_t (by decide +kernel) (List.mem_of_getElem? (i := 843) (by decide +kernel)), mG_t (by decide +kernel) (List.mem_of_getElem? (i := 6) (by decide +kernel)), ⟨by decide +kernel, by decide +kernel, by decide +kernel⟩, by decide, rfl⟩
theorem mJ_X5_camps : mJOk mX5_camps := ⟨mG_t (by decide +kernel) (List.mem_of_getElem? (i := 847) (by decide +kernel)), mG_t (by decide +kernel) (List.mem_of_getElem? (i := 6) (by decide +kernel)), ⟨by decide +kernel, by decide +kernel, by decide +kernel⟩, by decide, rfl⟩
theorem mJ_X5_campComes : mJOk mX5_campComes := ⟨mG_t (by decide +kernel) (List.mem_of_getElem? (i := 851) (by decide +kernel)), mG_t (by decide +kernel) (List.mem_of_getElem? (i := 6) (by decide +kernel)), ⟨by decide +kernel, by decide +kernel, by decide +kernel⟩, by decide, rfl⟩
theorem mJ_X5_strikes : mJOk mX5_strikes := ⟨mG_t (by decide +kernel) (List.mem_of_getElem? (i := 859) (by decide +kernel)), mG_t (by decide +kernel) (List.mem_of_getElem? (i := 6) (by decide +kernel)), ⟨by decide +kernel, by decide +kernel, by decide +kernel⟩, by decide, rfl⟩
theorem mJ_X5_areDays : mJOk mX5_areDays := ⟨mG_t (by decide +kernel) (List.mem_of_getElem? (i := 867) (by decide +kernel)), mG_t (by decide +kernel) (List.mem_of_getElem? (i := 6) (by decide +kernel)), ⟨by decide +kernel, by decide +kernel, by decide +kernel⟩, by decide, rfl⟩
theorem mJ_X5_isOne : mJOk mX5_isOne := ⟨mG_t (by decide +kernel) (List.mem_of_getElem? (i := 871) (by decide +kernel)), mG_t (by decide +kernel) (List.mem_of_getElem? (i := 6) (by decide +kernel)), ⟨by decide +kernel, by decide +kernel, by decide +kernel⟩, by decide, rfl⟩
theorem mJ_X5_isGroup : mJOk mX5_isGroup := ⟨mG_t (by decide +kernel) (List.mem_of_getElem? (i := 875) (by decide +kernel)), mG_t (by decide +kernel) (List.mem_of_getElem? (i := 6) (by decide +kernel)), ⟨by decide +kernel, by decide +kernel, by decide +kernel⟩, by decide, rfl⟩
theorem mJ_X5_kindOf : mJOk mX5_kindOf := ⟨mG_t (by decide +kernel) (List.mem_of_getElem? (i := 879) (by decide +kernel)), mG_t (by decide +kernel) (List.mem_of_getElem? (i := 6) (by decide +kernel)), ⟨by decide +kernel, by decide +kernel, by decide +kernel⟩, by decide, rfl⟩
theorem mJ_X5_put : mJOk mX5_put := ⟨mG_t (by decide +kernel) (List.mem_of_getElem? (i := 899) (by decide +kernel)), mG_t (by decide +kernel) (List.mem_of_getElem? (i := 6) (by decide +kernel)), ⟨by decide +kernel, by decide +kernel, by decide +kernel⟩, by decide, rfl⟩
theorem mJ_X5_here : mJOk mX5_here := ⟨mG_t (by decide +kernel) (List.mem_of_getElem? (i := 911) (by decide +kernel)), mG_t (by decide +kernel) (List.mem_of_getElem? (i := 6) (by decide +kernel)), ⟨by decide +kernel, by decide +kernel, by decide +kernel⟩, by decide, rfl⟩
theorem mJ_X5_statement : mJOk mX5_statement := ⟨mG_t (by decide +kernel) (List.mem_of_getElem? (i := 915) (by decide +kernel)), mG_t (by decide +kernel) (List.mem_of_getElem? (i := 6) (by decide +kernel)), ⟨by decide +kernel, by decide +kernel, by decide +kernel⟩, by decide, rfl⟩
theorem mJ_X5_word : mJOk mX5_word := ⟨mG_t (by decide +kernel) (List.mem_of_getElem? (i := 919) (by decide +kernel)), mG_t (by decide +kernel) (List.mem_of_getElem? (i := 6) (by decide +kernel)), ⟨by decide +kernel, by decide +kernel, by decide +kernel⟩, by decide, rfl⟩
theorem mJ_X5_letters : mJOk mX5_letters := ⟨mG_t (by decide +kernel) (List.mem_of_getElem? (i := 922) (by decide +kernel)), mG_t (by decide +kernel) (List.mem_of_getElem? (i := 6) (by decide +kernel)), ⟨by decide +kernel, by decide +kernel, by decide +kernel⟩, by decide, rfl⟩
theorem mJ_X5_fails : mJOk mX5_fails := ⟨mG_t (by decide +kernel) (List.mem_of_getElem? (i := 926) (by decide +kernel)), mG_t (by decide +kernel) (List.mem_of_getElem? (i := 6) (by decide +kernel)), ⟨by decide +kernel, by decide +kernel, by decide +kernel⟩, by decide, rfl⟩
theorem mJ_X5_number : mJOk mX5_number := ⟨mG_t (by decide +kernel) (List.mem_of_getElem? (i := 930) (by decide +kernel)), mG_t (by decide +kernel) (List.mem_of_getElem? (i := 6) (by decide +kernel)), ⟨by decide +kernel, by decide +kernel, by decide +kernel⟩, by decide, rfl⟩
theorem mJ_X5_isNumber : mJOk mX5_isNumber := ⟨mG_t (by decide +kernel) (List.mem_of_getElem? (i := 934) (by decide +kernel)), mG_t (by decide +kernel) (List.mem_of_getElem? (i := 6) (by decide +kernel)), ⟨by decide +kernel, by decide +kernel, by decide +kernel⟩, by decide, rfl⟩
theorem mJ_X5_kindBy : mJOk mX5_kindBy := ⟨mG_t (by decide +kernel) (List.mem_of_getElem? (i := 937) (by decide +kernel)), mG_t (by decide +kernel) (List.mem_of_getElem? (i := 6) (by decide +kernel)), ⟨by decide +kernel, by decide +kernel, by decide +kernel⟩, by decide, rfl⟩
theorem mJ_X5_planTold : mJOk mX5_planTold := ⟨mG_t (by decide +kernel) (List.mem_of_getElem? (i := 941) (by decide +kernel)), mG_t (by decide +kernel) (List.mem_of_getElem? (i := 6) (by decide +kernel)), ⟨by decide +kernel, by decide +kernel, by decide +kernel⟩, by decide, rfl⟩
theorem mJ_X5_closes : mJOk mX5_closes := ⟨mG_t (by decide +kernel) (List.mem_of_getElem? (i := 945) (by decide +kernel)), mG_t (by decide +kernel) (List.mem_of_getElem? (i := 6) (by decide +kernel)), ⟨by decide +kernel, by decide +kernel, by decide +kernel⟩, by decide, rfl⟩
theorem mJ_X5_item : mJOk mX5_item := ⟨mG_t (by decide +kernel) (List.mem_of_getElem? (i := 949) (by decide +kernel)), mG_t (by decide +kernel) (List.mem_of_getElem? (i := 6) (by decide +kernel)), ⟨by decide +kernel, by decide +kernel, by decide +kernel⟩, by decide, rfl⟩
theorem mJ_X5_named : mJOk mX5_named := ⟨mG_t (by decide +kernel) (List.mem_of_getElem? (i := 953) (by decide +kernel)), mG_t (by decide +kernel) (List.mem_of_getElem? (i := 6) (by decide +kernel)), ⟨by decide +kernel, by decide +kernel, by decide +kernel⟩, by decide, rfl⟩
theorem mJ_X5_goes : mJOk mX5_goes := ⟨mG_t (by decide +kernel) (List.mem_of_getElem? (i := 965) (by decide +kernel)), mG_t (by decide +kernel) (List.mem_of_getElem? (i := 6) (by decide +kernel)), ⟨by decide +kernel, by decide +kernel, by decide +kernel⟩, by decide, rfl⟩
theorem mJ_X5_isCamp : mJOk mX5_isCamp := ⟨mG_t (by decide +kernel) (List.mem_of_getElem? (i := 969) (by decide +kernel)), mG_t (by decide +kernel) (List.mem_of_getElem? (i := 6) (by decide +kernel)), ⟨by decide +kernel, by decide +kernel, by decide +kernel⟩, by decide, rfl⟩
theorem mJ_X5_acute : mJOk mX5_acute := ⟨mG_t (by decide +kernel) (List.mem_of_getElem? (i := 973) (by decide +kernel)), mG_t (by decide +kernel) (List.mem_of_getElem? (i := 6) (by decide +kernel)), ⟨by decide +kernel, by decide +kernel, by decide +kernel⟩, by decide, rfl⟩
theorem mJ_X5_chronic : mJOk mX5_chronic := ⟨mG_t (by decide +kernel) (List.mem_of_getElem? (i := 977) (by decide +kernel)), mG_t (by decide +kernel) (List.mem_of_getElem? (i := 6) (by decide +kernel)), ⟨by decide +kernel, by decide +kernel, by decide +kernel⟩, by decide, rfl⟩
theorem mJ_X5_formOf : mJOk mX5_formOf := ⟨mG_t (by decide +kernel) (List.mem_of_getElem? (i := 985) (by decide +kernel)), mG_t (by decide +kernel) (List.mem_of_getElem? (i := 6) (by decide +kernel)), ⟨by decide +kernel, by decide +kernel, by decide +kernel⟩, by decide, rfl⟩
theorem mJ_X5_formAt : mJOk mX5_formAt := ⟨mG_t (by decide +kernel) (List.mem_of_getElem? (i := 989) (by decide +kernel)), mG_t (by decide +kernel) (List.mem_of_getElem? (i := 6) (by decide +kernel)), ⟨by decide +kernel, by decide +kernel, by decide +kernel⟩, by decide, rfl⟩
theorem mJ_X5_remembers : mJOk mX5_remembers := ⟨mG_t (by decide +kernel) (List.mem_of_getElem? (i := 1010) (by decide +kernel)), mG_t (by decide +kernel) (List.mem_of_getElem? (i := 6) (by decide +kernel)), ⟨by decide +kernel, by decide +kernel, by decide +kernel⟩, by decide, rfl⟩
theorem mJ_X5_comesBack : mJOk mX5_comesBack := ⟨mG_t (by decide +kernel) (List.mem_of_getElem? (i := 1014) (by decide +kernel)), mG_t (by decide +kernel) (List.mem_of_getElem? (i := 6) (by decide +kernel)), ⟨by decide +kernel, by decide +kernel, by decide +kernel⟩, by decide, rfl⟩
theorem mJ_X5_isHale : mJOk mX5_isHale := ⟨mG_t (by decide +kernel) (List.mem_of_getElem? (i := 1022) (by decide +kernel)), mG_t (by decide +kernel) (List.mem_of_getElem? (i := 6) (by decide +kernel)), ⟨by decide +kernel, by decide +kernel, by decide +kernel⟩, by decide, rfl⟩
theorem mJ_X4_init : mJOk mX4_init := ⟨mG_t (by decide +kernel) (List.mem_of_getElem? (i := 21) (by decide +kernel)), mG_t (by decide +kernel) (List.mem_of_getElem? (i := 1) (by decide +kernel)), ⟨by decide +kernel, by decide +kernel, by decide +kernel⟩, by decide, rfl⟩
theorem mJ_X4_feed : mJOk mX4_feed := ⟨mG_t (by decide +kernel) (List.mem_of_getElem? (i := 229) (by decide +kernel)), mG_t (by decide +kernel) (List.mem_of_getElem? (i := 1) (by decide +kernel)), ⟨by decide +kernel, by decide +kernel, by decide +kernel⟩, by decide, rfl⟩
theorem mJ_X4_end : mJOk mX4_end := ⟨mG_t (by decide +kernel) (List.mem_of_getElem? (i := 237) (by decide +kernel)), mG_t (by decide +kernel) (List.mem_of_getElem? (i := 1) (by decide +kernel)), ⟨by decide +kernel, by decide +kernel, by decide +kernel⟩, by decide, rfl⟩
theorem mJ_X4_tell : mJOk mX4_tell := ⟨mG_t (by decide +kernel) (List.mem_of_getElem? (i := 241) (by decide +kernel)), mG_t (by decide +kernel) (List.mem_of_getElem? (i := 1) (by decide +kernel)), ⟨by decide +kernel, by decide +kernel, by decide +kernel⟩, by decide, rfl⟩
theorem mJ_X4_fault : mJOk mX4_fault := ⟨mG_t (by decide +kernel) (List.mem_of_getElem? (i := 443) (by decide +kernel)), mG_t (by decide +kernel) (List.mem_of_getElem? (i := 1) (by decide +kernel)), ⟨by decide +kernel, by decide +kernel, by decide +kernel⟩, by decide, rfl⟩
theorem mJ_X4_group : mJOk mX4_group := ⟨mG_t (by decide +kernel) (List.mem_of_getElem? (i := 447) (by decide +kernel)), mG_t (by decide +kernel) (List.mem_of_getElem? (i := 1) (by decide +kernel)), ⟨by decide +kernel, by decide +kernel, by decide +kernel⟩, by decide, rfl⟩
theorem mJ_X4_load : mJOk mX4_load := ⟨mG_t (by decide +kernel) (List.mem_of_getElem? (i := 455) (by decide +kernel)), mG_t (by decide +kernel) (List.mem_of_getElem? (i := 1) (by decide +kernel)), ⟨by decide +kernel, by decide +kernel, by decide +kernel⟩, by decide, rfl⟩
theorem mJ_X4_set : mJOk mX4_set := ⟨mG_t (by decide +kernel) (List.mem_of_getElem? (i := 459) (by decide +kernel)), mG_t (by decide +kernel) (List.mem_of_getElem? (i := 1) (by decide +kernel)), ⟨by decide +kernel, by decide +kernel, by decide +kernel⟩, by decide, rfl⟩
theorem mJ_X4_camp : mJOk mX4_camp := ⟨mG_t (by decide +kernel) (List.mem_of_getElem? (i := 468) (by decide +kernel)), mG_t (by decide +kernel) (List.mem_of_getElem? (i := 1) (by decide +kernel)), ⟨by decide +kernel, by decide +kernel, by decide +kernel⟩, by decide, rfl⟩
theorem mJ_X4_strike : mJOk mX4_strike := ⟨mG_t (by decide +kernel) (List.mem_of_getElem? (i := 479) (by decide +kernel)), mG_t (by decide +kernel) (List.mem_of_getElem? (i := 1) (by decide +kernel)), ⟨by decide +kernel, by decide +kernel, by decide +kernel⟩, by decide, rfl⟩
theorem mJ_X4_plan : mJOk mX4_plan := ⟨mG_t (by decide +kernel) (List.mem_of_getElem? (i := 491) (by decide +kernel)), mG_t (by decide +kernel) (List.mem_of_getElem? (i := 1) (by decide +kernel)), ⟨by decide +kernel, by decide +kernel, by decide +kernel⟩, by decide, rfl⟩
theorem mJ_X4_undo : mJOk mX4_undo := ⟨mG_t (by decide +kernel) (List.mem_of_getElem? (i := 504) (by decide +kernel)), mG_t (by decide +kernel) (List.mem_of_getElem? (i := 1) (by decide +kernel)), ⟨by decide +kernel, by decide +kernel, by decide +kernel⟩, by decide, rfl⟩
theorem mJ_X4_count : mJOk mX4_count := ⟨mG_t (by decide +kernel) (List.mem_of_getElem? (i := 508) (by decide +kernel)), mG_t (by decide +kernel) (List.mem_of_getElem? (i := 1) (by decide +kernel)), ⟨by decide +kernel, by decide +kernel, by decide +kernel⟩, by decide, rfl⟩
theorem mJ_X4_day : mJOk mX4_day := ⟨mG_t (by decide +kernel) (List.mem_of_getElem? (i := 516) (by decide +kernel)), mG_t (by decide +kernel) (List.mem_of_getElem? (i := 1) (by decide +kernel)), ⟨by decide +kernel, by decide +kernel, by decide +kernel⟩, by decide, rfl⟩
theorem mJ_X4_form : mJOk mX4_form := ⟨mG_t (by decide +kernel) (List.mem_of_getElem? (i := 567) (by decide +kernel)), mG_t (by decide +kernel) (List.mem_of_getElem? (i := 1) (by decide +kernel)), ⟨by decide +kernel, by decide +kernel, by decide +kernel⟩, by decide, rfl⟩
theorem mJ_X4_week : mJOk mX4_week := ⟨mG_t (by decide +kernel) (List.mem_of_getElem? (i := 580) (by decide +kernel)), mG_t (by decide +kernel) (List.mem_of_getElem? (i := 1) (by decide +kernel)), ⟨by decide +kernel, by decide +kernel, by decide +kernel⟩, by decide, rfl⟩
theorem mJ_X4_injured : mJOk mX4_injured := ⟨mG_t (by decide +kernel) (List.mem_of_getElem? (i := 584) (by decide +kernel)), mG_t (by decide +kernel) (List.mem_of_getElem? (i := 1) (by decide +kernel)), ⟨by decide +kernel, by decide +kernel, by decide +kernel⟩, by decide, rfl⟩
theorem mJ_X4_peak : mJOk mX4_peak := ⟨mG_t (by decide +kernel) (List.mem_of_getElem? (i := 588) (by decide +kernel)), mG_t (by decide +kernel) (List.mem_of_getElem? (i := 1) (by decide +kernel)), ⟨by decide +kernel, by decide +kernel, by decide +kernel⟩, by decide, rfl⟩
theorem mJ_X4_taper : mJOk mX4_taper := ⟨mG_t (by decide +kernel) (List.mem_of_getElem? (i := 592) (by decide +kernel)), mG_t (by decide +kernel) (List.mem_of_getElem? (i := 1) (by decide +kernel)), ⟨by decide +kernel, by decide +kernel, by decide +kernel⟩, by decide, rfl⟩
theorem mJ_X4_best : mJOk mX4_best := ⟨mG_t (by decide +kernel) (List.mem_of_getElem? (i := 597) (by decide +kernel)), mG_t (by decide +kernel) (List.mem_of_getElem? (i := 1) (by decide +kernel)), ⟨by decide +kernel, by decide +kernel, by decide +kernel⟩, by decide, rfl⟩
theorem mJ_X4_team : mJOk mX4_team := ⟨mG_t (by decide +kernel) (List.mem_of_getElem? (i := 611) (by decide +kernel)), mG_t (by decide +kernel) (List.mem_of_getElem? (i := 1) (by decide +kernel)), ⟨by decide +kernel, by decide +kernel, by decide +kernel⟩, by decide, rfl⟩
theorem mJ_X4_safe : mJOk mX4_safe := ⟨mG_t (by decide +kernel) (List.mem_of_getElem? (i := 619) (by decide +kernel)), mG_t (by decide +kernel) (List.mem_of_getElem? (i := 1) (by decide +kernel)), ⟨by decide +kernel, by decide +kernel, by decide +kernel⟩, by decide, rfl⟩
theorem mJ_X4_row : mJOk mX4_row := ⟨mG_t (by decide +kernel) (List.mem_of_getElem? (i := 624) (by decide +kernel)), mG_t (by decide +kernel) (List.mem_of_getElem? (i := 1) (by decide +kernel)), ⟨by decide +kernel, by decide +kernel, by decide +kernel⟩, by decide, rfl⟩
theorem mJ_X4_swap : mJOk mX4_swap := ⟨mG_t (by decide +kernel) (List.mem_of_getElem? (i := 629) (by decide +kernel)), mG_t (by decide +kernel) (List.mem_of_getElem? (i := 1) (by decide +kernel)), ⟨by decide +kernel, by decide +kernel, by decide +kernel⟩, by decide, rfl⟩
theorem mJ_X4_without : mJOk mX4_without := ⟨mG_t (by decide +kernel) (List.mem_of_getElem? (i := 633) (by decide +kernel)), mG_t (by decide +kernel) (List.mem_of_getElem? (i := 1) (by decide +kernel)), ⟨by decide +kernel, by decide +kernel, by decide +kernel⟩, by decide, rfl⟩
theorem mJ_X4_ahead : mJOk mX4_ahead := ⟨mG_t (by decide +kernel) (List.mem_of_getElem? (i := 637) (by decide +kernel)), mG_t (by decide +kernel) (List.mem_of_getElem? (i := 1) (by decide +kernel)), ⟨by decide +kernel, by decide +kernel, by decide +kernel⟩, by decide, rfl⟩
theorem mJ_X4_camped : mJOk mX4_camped := ⟨mG_t (by decide +kernel) (List.mem_of_getElem? (i := 645) (by decide +kernel)), mG_t (by decide +kernel) (List.mem_of_getElem? (i := 1) (by decide +kernel)), ⟨by decide +kernel, by decide +kernel, by decide +kernel⟩, by decide, rfl⟩
theorem mJ_X5_init : mJOk mX5_init := ⟨mG_t (by decide +kernel) (List.mem_of_getElem? (i := 715) (by decide +kernel)), mG_t (by decide +kernel) (List.mem_of_getElem? (i := 6) (by decide +kernel)), ⟨by decide +kernel, by decide +kernel, by decide +kernel⟩, by decide, rfl⟩
theorem mJ_X5_thrown : mJOk mX5_thrown := ⟨mG_t (by decide +kernel) (List.mem_of_getElem? (i := 802) (by decide +kernel)), mG_t (by decide +kernel) (List.mem_of_getElem? (i := 6) (by decide +kernel)), ⟨by decide +kernel, by decide +kernel, by decide +kernel⟩, by decide, rfl⟩
theorem mJ_X5_group : mJOk mX5_group := ⟨mG_t (by decide +kernel) (List.mem_of_getElem? (i := 806) (by decide +kernel)), mG_t (by decide +kernel) (List.mem_of_getElem? (i := 6) (by decide +kernel)), ⟨by decide +kernel, by decide +kernel, by decide +kernel⟩, by decide, rfl⟩
theorem mJ_X5_load : mJOk mX5_load := ⟨mG_t (by decide +kernel) (List.mem_of_getElem? (i := 825) (by decide +kernel)), mG_t (by decide +kernel) (List.mem_of_getElem? (i := 6) (by decide +kernel)), ⟨by decide +kernel, by decide +kernel, by decide +kernel⟩, by decide, rfl⟩
theorem mJ_X5_set : mJOk mX5_set := ⟨mG_t (by decide +kernel) (List.mem_of_getElem? (i := 829) (by decide +kernel)), mG_t (by decide +kernel) (List.mem_of_getElem? (i := 6) (by decide +kernel)), ⟨by decide +kernel, by decide +kernel, by decide +kernel⟩, by decide, rfl⟩
theorem mJ_X5_camp : mJOk mX5_camp := ⟨mG_t (by decide +kernel) (List.mem_of_getElem? (i := 840) (by decide +kernel)), mG_t (by decide +kernel) (List.mem_of_getElem? (i := 6) (by decide +kernel)), ⟨by decide +kernel, by decide +kernel, by decide +kernel⟩, by decide, rfl⟩
theorem mJ_X5_strike : mJOk mX5_strike := ⟨mG_t (by decide +kernel) (List.mem_of_getElem? (i := 855) (by decide +kernel)), mG_t (by decide +kernel) (List.mem_of_getElem? (i := 6) (by decide +kernel)), ⟨by decide +kernel, by decide +kernel, by decide +kernel⟩, by decide, rfl⟩
theorem mJ_X5_plan : mJOk mX5_plan := ⟨mG_t (by decide +kernel) (List.mem_of_getElem? (i := 863) (by decide +kernel)), mG_t (by decide +kernel) (List.mem_of_getElem? (i := 6) (by decide +kernel)), ⟨by decide +kernel, by decide +kernel, by decide +kernel⟩, by decide, rfl⟩
theorem mJ_X5_undo : mJOk mX5_undo := ⟨mG_t (by decide +kernel) (List.mem_of_getElem? (i := 883) (by decide +kernel)), mG_t (by decide +kernel) (List.mem_of_getElem? (i := 6) (by decide +kernel)), ⟨by decide +kernel, by decide +kernel, by decide +kernel⟩, by decide, rfl⟩
theorem mJ_X5_count : mJOk mX5_count := ⟨mG_t (by decide +kernel) (List.mem_of_getElem? (i := 887) (by decide +kernel)), mG_t (by decide +kernel) (List.mem_of_getElem? (i := 6) (by decide +kernel)), ⟨by decide +kernel, by decide +kernel, by decide +kernel⟩, by decide, rfl⟩
theorem mJ_X5_camped : mJOk mX5_camped := ⟨mG_t (by decide +kernel) (List.mem_of_getElem? (i := 891) (by decide +kernel)), mG_t (by decide +kernel) (List.mem_of_getElem? (i := 6) (by decide +kernel)), ⟨by decide +kernel, by decide +kernel, by decide +kernel⟩, by decide, rfl⟩
theorem mJ_X5_feed : mJOk mX5_feed := ⟨mG_t (by decide +kernel) (List.mem_of_getElem? (i := 895) (by decide +kernel)), mG_t (by decide +kernel) (List.mem_of_getElem? (i := 6) (by decide +kernel)), ⟨by decide +kernel, by decide +kernel, by decide +kernel⟩, by decide, rfl⟩
theorem mJ_X5_end : mJOk mX5_end := ⟨mG_t (by decide +kernel) (List.mem_of_getElem? (i := 903) (by decide +kernel)), mG_t (by decide +kernel) (List.mem_of_getElem? (i := 6) (by decide +kernel)), ⟨by decide +kernel, by decide +kernel, by decide +kernel⟩, by decide, rfl⟩
theorem mJ_X5_tell : mJOk mX5_tell := ⟨mG_t (by decide +kernel) (List.mem_of_getElem? (i := 907) (by decide +kernel)), mG_t (by decide +kernel) (List.mem_of_getElem? (i := 6) (by decide +kernel)), ⟨by decide +kernel, by decide +kernel, by decide +kernel⟩, by decide, rfl⟩
theorem mJ_X5_fault : mJOk mX5_fault := ⟨mG_t (by decide +kernel) (List.mem_of_getElem? (i := 957) (by decide +kernel)), mG_t (by decide +kernel) (List.mem_of_getElem? (i := 6) (by decide +kernel)), ⟨by decide +kernel, by decide +kernel, by decide +kernel⟩, by decide, rfl⟩
theorem mJ_X5_day : mJOk mX5_day := ⟨mG_t (by decide +kernel) (List.mem_of_getElem? (i := 961) (by decide +kernel)), mG_t (by decide +kernel) (List.mem_of_getElem? (i := 6) (by decide +kernel)), ⟨by decide +kernel, by decide +kernel, by decide +kernel⟩, by decide, rfl⟩
theorem mJ_X5_form : mJOk mX5_form := ⟨mG_t (by decide +kernel) (List.mem_of_getElem? (i := 981) (by decide +kernel)), mG_t (by decide +kernel) (List.mem_of_getElem? (i := 6) (by decide +kernel)), ⟨by decide +kernel, by decide +kernel, by decide +kernel⟩, by decide, rfl⟩
theorem mJ_X5_week : mJOk mX5_week := ⟨mG_t (by decide +kernel) (List.mem_of_getElem? (i := 994) (by decide +kernel)), mG_t (by decide +kernel) (List.mem_of_getElem? (i := 6) (by decide +kernel)), ⟨by decide +kernel, by decide +kernel, by decide +kernel⟩, by decide, rfl⟩
theorem mJ_X5_injured : mJOk mX5_injured := ⟨mG_t (by decide +kernel) (List.mem_of_getElem? (i := 998) (by decide +kernel)), mG_t (by decide +kernel) (List.mem_of_getElem? (i := 6) (by decide +kernel)), ⟨by decide +kernel, by decide +kernel, by decide +kernel⟩, by decide, rfl⟩
theorem mJ_X5_peak : mJOk mX5_peak := ⟨mG_t (by decide +kernel) (List.mem_of_getElem? (i := 1002) (by decide +kernel)), mG_t (by decide +kernel) (List.mem_of_getElem? (i := 6) (by decide +kernel)), ⟨by decide +kernel, by decide +kernel, by decide +kernel⟩, by decide, rfl⟩
theorem mJ_X5_taper : mJOk mX5_taper := ⟨mG_t (by decide +kernel) (List.mem_of_getElem? (i := 1006) (by decide +kernel)), mG_t (by decide +kernel) (List.mem_of_getElem? (i := 6) (by decide +kernel)), ⟨by decide +kernel, by decide +kernel, by decide +kernel⟩, by decide, rfl⟩
theorem mJ_X5_best : mJOk mX5_best := ⟨mG_t (by decide +kernel) (List.mem_of_getElem? (i := 1018) (by decide +kernel)), mG_t (by decide +kernel) (List.mem_of_getElem? (i := 6) (by decide +kernel)), ⟨by decide +kernel, by decide +kernel, by decide +kernel⟩, by decide, rfl⟩
theorem mJ_X5_team : mJOk mX5_team := ⟨mG_t (by decide +kernel) (List.mem_of_getElem? (i := 1026) (by decide +kernel)), mG_t (by decide +kernel) (List.mem_of_getElem? (i := 6) (by decide +kernel)), ⟨by decide +kernel, by decide +kernel, by decide +kernel⟩, by decide, rfl⟩
theorem mJ_X5_safe : mJOk mX5_safe := ⟨mG_t (by decide +kernel) (List.mem_of_getElem? (i := 1030) (by decide +kernel)), mG_t (by decide +kernel) (List.mem_of_getElem? (i := 6) (by decide +kernel)), ⟨by decide +kernel, by decide +kernel, by decide +kernel⟩, by decide, rfl⟩
theorem mJ_X5_row : mJOk mX5_row := ⟨mG_t (by decide +kernel) (List.mem_of_getElem? (i := 1034) (by decide +kernel)), mG_t (by decide +kernel) (List.mem_of_getElem? (i := 6) (by decide +kernel)), ⟨by decide +kernel, by decide +kernel, by decide +kernel⟩, by decide, rfl⟩
theorem mJ_X5_swap : mJOk mX5_swap := ⟨mG_t (by decide +kernel) (List.mem_of_getElem? (i := 1038) (by decide +kernel)), mG_t (by decide +kernel) (List.mem_of_getElem? (i := 6) (by decide +kernel)), ⟨by decide +kernel, by decide +kernel, by decide +kernel⟩, by decide, rfl⟩
theorem mJ_X5_without : mJOk mX5_without := ⟨mG_t (by decide +kernel) (List.mem_of_getElem? (i := 1042) (by decide +kernel)), mG_t (by decide +kernel) (List.mem_of_getElem? (i := 6) (by decide +kernel)), ⟨by decide +kernel, by decide +kernel, by decide +kernel⟩, by decide, rfl⟩
theorem mJ_X5_ahead : mJOk mX5_ahead := ⟨mG_t (by decide +kernel) (List.mem_of_getElem? (i := 1046) (by decide +kernel)), mG_t (by decide +kernel) (List.mem_of_getElem? (i := 6) (by decide +kernel)), ⟨by decide +kernel, by decide +kernel, by decide +kernel⟩, by decide, rfl⟩
def mCaOk (o : Nat) (q : Nat × Nat × mI) : Prop := mJOk q.2.2 ∧ match q.2.1 with
  | 0 => Cond.methodLink (mOwn.getD o "") q.1 q.2.2.1 ∈ mGood ∧ Cond.static q.2.2.1 ∈ mGood
  | 1 => Cond.methodLink (mOwn.getD o "") q.1 q.2.2.1 ∈ mGood ∧ Cond.instanceMethod q.2.2.1 ∈ mGood ∧ Cond.selects q.2.2.1.cls q.2.2.1 q.2.2.1 ∈ mGood
  | 2 => Cond.methodLink (mOwn.getD o "") q.1 q.2.2.1 ∈ mGood ∧ Cond.instanceMethod q.2.2.1 ∈ mGood ∧ q.2.2.1.name = "<init>"
  | 4 => Cond.methodLinkNest (mOwn.getD o "") q.1 q.2.2.1 RX4 ∈ tables_1 ∧ Cond.instanceMethod q.2.2.1 ∈ mGood ∧ Cond.selects q.2.2.1.cls q.2.2.1 q.2.2.1 ∈ mGood
  | 5 => Cond.methodLinkNest (mOwn.getD o "") q.1 q.2.2.1 RX4 ∈ tables_1 ∧ Cond.instanceMethod q.2.2.1 ∈ mGood ∧ q.2.2.1.name = "<init>"
  | _ => False
theorem mCa0_0 : mCaOk 0 (64, 1, mX0_pitch) := ⟨mJ_X0_pitch, ⟨mG_t (by decide +kernel) (List.mem_of_getElem? (i := 522) (by decide +kernel)), mG_t (by decide +kernel) (List.mem_of_getElem? (i := 524) (by decide +kernel)), mG_s (by decide +kernel) (List.mem_of_getElem? (i := 35) (by decide +kernel))⟩⟩
theorem mCa0_1 : mCaOk 0 (74, 1, mX0_live) := ⟨mJ_X0_live, ⟨mG_t (by decide +kernel) (List.mem_of_getElem? (i := 526) (by decide +kernel)), mG_t (by decide +kernel) (List.mem_of_getElem? (i := 528) (by decide +kernel)), mG_s (by decide +kernel) (List.mem_of_getElem? (i := 36) (by decide +kernel))⟩⟩
theorem mCa0_2 : mCaOk 0 (77, 1, mX0_liveDay) := ⟨mJ_X0_liveDay, ⟨mG_t (by decide +kernel) (List.mem_of_getElem? (i := 530) (by decide +kernel)), mG_t (by decide +kernel) (List.mem_of_getElem? (i := 532) (by decide +kernel)), mG_s (by decide +kernel) (List.mem_of_getElem? (i := 37) (by decide +kernel))⟩⟩
theorem mCa0_3 : mCaOk 0 (80, 1, mX0_isHurt) := ⟨mJ_X0_isHurt, ⟨mG_t (by decide +kernel) (List.mem_of_getElem? (i := 534) (by decide +kernel)), mG_t (by decide +kernel) (List.mem_of_getElem? (i := 536) (by decide +kernel)), mG_s (by decide +kernel) (List.mem_of_getElem? (i := 38) (by decide +kernel))⟩⟩
theorem mCa0_4 : mCaOk 0 (84, 1, mX0_held) := ⟨mJ_X0_held, ⟨mG_t (by decide +kernel) (List.mem_of_getElem? (i := 538) (by decide +kernel)), mG_t (by decide +kernel) (List.mem_of_getElem? (i := 540) (by decide +kernel)), mG_s (by decide +kernel) (List.mem_of_getElem? (i := 39) (by decide +kernel))⟩⟩
theorem mCa0_5 : mCaOk 0 (88, 0, mX0_decayed) := ⟨mJ_X0_decayed, ⟨mG_t (by decide +kernel) (List.mem_of_getElem? (i := 543) (by decide +kernel)), mG_t (by decide +kernel) (List.mem_of_getElem? (i := 544) (by decide +kernel))⟩⟩
theorem mCa0_6 : mCaOk 0 (91, 1, mX0_isTooMuch) := ⟨mJ_X0_isTooMuch, ⟨mG_t (by decide +kernel) (List.mem_of_getElem? (i := 546) (by decide +kernel)), mG_t (by decide +kernel) (List.mem_of_getElem? (i := 548) (by decide +kernel)), mG_s (by decide +kernel) (List.mem_of_getElem? (i := 40) (by decide +kernel))⟩⟩
theorem mCa0_7 : mCaOk 0 (99, 1, mX0_acute) := ⟨mJ_X0_acute, ⟨mG_t (by decide +kernel) (List.mem_of_getElem? (i := 550) (by decide +kernel)), mG_t (by decide +kernel) (List.mem_of_getElem? (i := 552) (by decide +kernel)), mG_s (by decide +kernel) (List.mem_of_getElem? (i := 41) (by decide +kernel))⟩⟩
theorem mCa0_8 : mCaOk 0 (103, 1, mX0_chronic) := ⟨mJ_X0_chronic, ⟨mG_t (by decide +kernel) (List.mem_of_getElem? (i := 557) (by decide +kernel)), mG_t (by decide +kernel) (List.mem_of_getElem? (i := 559) (by decide +kernel)), mG_s (by decide +kernel) (List.mem_of_getElem? (i := 42) (by decide +kernel))⟩⟩
theorem mCa0_9 : mCaOk 0 (109, 1, mX0_keepIfBetter) := ⟨mJ_X0_keepIfBetter, ⟨mG_t (by decide +kernel) (List.mem_of_getElem? (i := 602) (by decide +kernel)), mG_t (by decide +kernel) (List.mem_of_getElem? (i := 604) (by decide +kernel)), mG_s (by decide +kernel) (List.mem_of_getElem? (i := 46) (by decide +kernel))⟩⟩
theorem mCa0_10 : mCaOk 0 (116, 1, mX0_formOf) := ⟨mJ_X0_formOf, ⟨mG_t (by decide +kernel) (List.mem_of_getElem? (i := 606) (by decide +kernel)), mG_t (by decide +kernel) (List.mem_of_getElem? (i := 575) (by decide +kernel)), mG_s (by decide +kernel) (List.mem_of_getElem? (i := 44) (by decide +kernel))⟩⟩
theorem mCa0_11 : mCaOk 0 (112, 1, mX0_tryRows) := ⟨mJ_X0_tryRows, ⟨mG_t (by decide +kernel) (List.mem_of_getElem? (i := 607) (by decide +kernel)), mG_t (by decide +kernel) (List.mem_of_getElem? (i := 600) (by decide +kernel)), mG_s (by decide +kernel) (List.mem_of_getElem? (i := 45) (by decide +kernel))⟩⟩
theorem mCaA0 : ∀ q ∈ mCa 0, mCaOk 0 q := List.forall_mem_cons.mpr ⟨mCa0_0, List.forall_mem_cons.mpr ⟨mCa0_1, List.forall_mem_cons.mpr ⟨mCa0_2, List.forall_mem_cons.mpr ⟨mCa0_3, List.forall_mem_cons.mpr ⟨mCa0_4, List.forall_mem_cons.mpr ⟨mCa0_5, List.forall_mem_cons.mpr ⟨mCa0_6, List.forall_mem_cons.mpr ⟨mCa0_7, List.forall_mem_cons.mpr ⟨mCa0_8, List.forall_mem_cons.mpr ⟨mCa0_9, List.forall_mem_cons.mpr ⟨mCa0_10, List.forall_mem_cons.mpr ⟨mCa0_11, fun _ h => absurd h List.not_mem_nil⟩⟩⟩⟩⟩⟩⟩⟩⟩⟩⟩⟩
theorem mCa1_0 : mCaOk 1 (32, 0, mX1_isLetter) := ⟨mJ_X1_isLetter, ⟨mG_t (by decide +kernel) (List.mem_of_getElem? (i := 246) (by decide +kernel)), mG_t (by decide +kernel) (List.mem_of_getElem? (i := 247) (by decide +kernel))⟩⟩
theorem mCa1_1 : mCaOk 1 (36, 1, mX1_endOfWord) := ⟨mJ_X1_endOfWord, ⟨mG_t (by decide +kernel) (List.mem_of_getElem? (i := 249) (by decide +kernel)), mG_t (by decide +kernel) (List.mem_of_getElem? (i := 251) (by decide +kernel)), mG_s (by decide +kernel) (List.mem_of_getElem? (i := 2) (by decide +kernel))⟩⟩
theorem mCa1_2 : mCaOk 1 (40, 1, mX1_wordAt) := ⟨mJ_X1_wordAt, ⟨mG_t (by decide +kernel) (List.mem_of_getElem? (i := 253) (by decide +kernel)), mG_t (by decide +kernel) (List.mem_of_getElem? (i := 255) (by decide +kernel)), mG_s (by decide +kernel) (List.mem_of_getElem? (i := 3) (by decide +kernel))⟩⟩
theorem mCa1_3 : mCaOk 1 (63, 0, mX1_textOf) := ⟨mJ_X1_textOf, ⟨mG_t (by decide +kernel) (List.mem_of_getElem? (i := 257) (by decide +kernel)), mG_t (by decide +kernel) (List.mem_of_getElem? (i := 258) (by decide +kernel))⟩⟩
theorem mCa1_4 : mCaOk 1 (67, 1, mX1_isTextAt) := ⟨mJ_X1_isTextAt, ⟨mG_t (by decide +kernel) (List.mem_of_getElem? (i := 272) (by decide +kernel)), mG_t (by decide +kernel) (List.mem_of_getElem? (i := 274) (by decide +kernel)), mG_s (by decide +kernel) (List.mem_of_getElem? (i := 4) (by decide +kernel))⟩⟩
theorem mCa1_5 : mCaOk 1 (44, 1, mX1_note) := ⟨mJ_X1_note, ⟨mG_t (by decide +kernel) (List.mem_of_getElem? (i := 324) (by decide +kernel)), mG_t (by decide +kernel) (List.mem_of_getElem? (i := 326) (by decide +kernel)), mG_s (by decide +kernel) (List.mem_of_getElem? (i := 5) (by decide +kernel))⟩⟩
theorem mCa1_6 : mCaOk 1 (48, 0, mX1_isDigit) := ⟨mJ_X1_isDigit, ⟨mG_t (by decide +kernel) (List.mem_of_getElem? (i := 328) (by decide +kernel)), mG_t (by decide +kernel) (List.mem_of_getElem? (i := 329) (by decide +kernel))⟩⟩
theorem mCa1_7 : mCaOk 1 (51, 1, mX1_endOfInt) := ⟨mJ_X1_endOfInt, ⟨mG_t (by decide +kernel) (List.mem_of_getElem? (i := 331) (by decide +kernel)), mG_t (by decide +kernel) (List.mem_of_getElem? (i := 333) (by decide +kernel)), mG_s (by decide +kernel) (List.mem_of_getElem? (i := 6) (by decide +kernel))⟩⟩
theorem mCa1_8 : mCaOk 1 (54, 1, mX1_numberAt) := ⟨mJ_X1_numberAt, ⟨mG_t (by decide +kernel) (List.mem_of_getElem? (i := 335) (by decide +kernel)), mG_t (by decide +kernel) (List.mem_of_getElem? (i := 337) (by decide +kernel)), mG_s (by decide +kernel) (List.mem_of_getElem? (i := 7) (by decide +kernel))⟩⟩
theorem mCa1_9 : mCaOk 1 (57, 0, mX1_isBlank) := ⟨mJ_X1_isBlank, ⟨mG_t (by decide +kernel) (List.mem_of_getElem? (i := 339) (by decide +kernel)), mG_t (by decide +kernel) (List.mem_of_getElem? (i := 340) (by decide +kernel))⟩⟩
theorem mCa1_10 : mCaOk 1 (60, 0, mX1_signOf) := ⟨mJ_X1_signOf, ⟨mG_t (by decide +kernel) (List.mem_of_getElem? (i := 342) (by decide +kernel)), mG_t (by decide +kernel) (List.mem_of_getElem? (i := 343) (by decide +kernel))⟩⟩
theorem mCaA1 : ∀ q ∈ mCa 1, mCaOk 1 q := List.forall_mem_cons.mpr ⟨mCa1_0, List.forall_mem_cons.mpr ⟨mCa1_1, List.forall_mem_cons.mpr ⟨mCa1_2, List.forall_mem_cons.mpr ⟨mCa1_3, List.forall_mem_cons.mpr ⟨mCa1_4, List.forall_mem_cons.mpr ⟨mCa1_5, List.forall_mem_cons.mpr ⟨mCa1_6, List.forall_mem_cons.mpr ⟨mCa1_7, List.forall_mem_cons.mpr ⟨mCa1_8, List.forall_mem_cons.mpr ⟨mCa1_9, List.forall_mem_cons.mpr ⟨mCa1_10, fun _ h => absurd h List.not_mem_nil⟩⟩⟩⟩⟩⟩⟩⟩⟩⟩⟩
theorem mCa2_0 : mCaOk 2 (11, 5, mX1_init) := ⟨mJ_X1_init, ⟨List.mem_of_getElem? (i := 87) (by decide +kernel), mG_t (by decide +kernel) (List.mem_of_getElem? (i := 88) (by decide +kernel)), rfl⟩⟩
theorem mCa2_1 : mCaOk 2 (20, 5, mX3_init) := ⟨mJ_X3_init, ⟨List.mem_of_getElem? (i := 117) (by decide +kernel), mG_t (by decide +kernel) (List.mem_of_getElem? (i := 28) (by decide +kernel)), rfl⟩⟩
theorem mCa2_2 : mCaOk 2 (32, 4, mX3_copyFrom) := ⟨mJ_X3_copyFrom, ⟨List.mem_of_getElem? (i := 349) (by decide +kernel), mG_t (by decide +kernel) (List.mem_of_getElem? (i := 351) (by decide +kernel)), mG_s (by decide +kernel) (List.mem_of_getElem? (i := 9) (by decide +kernel))⟩⟩
theorem mCa2_3 : mCaOk 2 (43, 1, mX2_token) := ⟨mJ_X2_token, ⟨mG_t (by decide +kernel) (List.mem_of_getElem? (i := 356) (by decide +kernel)), mG_t (by decide +kernel) (List.mem_of_getElem? (i := 358) (by decide +kernel)), mG_s (by decide +kernel) (List.mem_of_getElem? (i := 10) (by decide +kernel))⟩⟩
theorem mCa2_4 : mCaOk 2 (47, 1, mX2_readStatement) := ⟨mJ_X2_readStatement, ⟨mG_t (by decide +kernel) (List.mem_of_getElem? (i := 360) (by decide +kernel)), mG_t (by decide +kernel) (List.mem_of_getElem? (i := 362) (by decide +kernel)), mG_s (by decide +kernel) (List.mem_of_getElem? (i := 11) (by decide +kernel))⟩⟩
theorem mCa2_5 : mCaOk 2 (55, 1, mX2_readGroup) := ⟨mJ_X2_readGroup, ⟨mG_t (by decide +kernel) (List.mem_of_getElem? (i := 364) (by decide +kernel)), mG_t (by decide +kernel) (List.mem_of_getElem? (i := 366) (by decide +kernel)), mG_s (by decide +kernel) (List.mem_of_getElem? (i := 12) (by decide +kernel))⟩⟩
theorem mCa2_6 : mCaOk 2 (70, 1, mX2_fail) := ⟨mJ_X2_fail, ⟨mG_t (by decide +kernel) (List.mem_of_getElem? (i := 368) (by decide +kernel)), mG_t (by decide +kernel) (List.mem_of_getElem? (i := 370) (by decide +kernel)), mG_s (by decide +kernel) (List.mem_of_getElem? (i := 13) (by decide +kernel))⟩⟩
theorem mCa2_7 : mCaOk 2 (76, 1, mX2_step) := ⟨mJ_X2_step, ⟨mG_t (by decide +kernel) (List.mem_of_getElem? (i := 372) (by decide +kernel)), mG_t (by decide +kernel) (List.mem_of_getElem? (i := 374) (by decide +kernel)), mG_s (by decide +kernel) (List.mem_of_getElem? (i := 14) (by decide +kernel))⟩⟩
theorem mCa2_8 : mCaOk 2 (79, 1, mX2_takeInt) := ⟨mJ_X2_takeInt, ⟨mG_t (by decide +kernel) (List.mem_of_getElem? (i := 376) (by decide +kernel)), mG_t (by decide +kernel) (List.mem_of_getElem? (i := 378) (by decide +kernel)), mG_s (by decide +kernel) (List.mem_of_getElem? (i := 15) (by decide +kernel))⟩⟩
theorem mCa2_9 : mCaOk 2 (83, 4, mX3_addGroup) := ⟨mJ_X3_addGroup, ⟨List.mem_of_getElem? (i := 380) (by decide +kernel), mG_t (by decide +kernel) (List.mem_of_getElem? (i := 382) (by decide +kernel)), mG_s (by decide +kernel) (List.mem_of_getElem? (i := 16) (by decide +kernel))⟩⟩
theorem mCa2_10 : mCaOk 2 (58, 1, mX2_readLoad) := ⟨mJ_X2_readLoad, ⟨mG_t (by decide +kernel) (List.mem_of_getElem? (i := 384) (by decide +kernel)), mG_t (by decide +kernel) (List.mem_of_getElem? (i := 386) (by decide +kernel)), mG_s (by decide +kernel) (List.mem_of_getElem? (i := 17) (by decide +kernel))⟩⟩
theorem mCa2_11 : mCaOk 2 (61, 1, mX2_readCamp) := ⟨mJ_X2_readCamp, ⟨mG_t (by decide +kernel) (List.mem_of_getElem? (i := 388) (by decide +kernel)), mG_t (by decide +kernel) (List.mem_of_getElem? (i := 390) (by decide +kernel)), mG_s (by decide +kernel) (List.mem_of_getElem? (i := 18) (by decide +kernel))⟩⟩
theorem mCa2_12 : mCaOk 2 (93, 4, mX3_addCamp) := ⟨mJ_X3_addCamp, ⟨List.mem_of_getElem? (i := 392) (by decide +kernel), mG_t (by decide +kernel) (List.mem_of_getElem? (i := 394) (by decide +kernel)), mG_s (by decide +kernel) (List.mem_of_getElem? (i := 19) (by decide +kernel))⟩⟩
theorem mCa2_13 : mCaOk 2 (64, 1, mX2_readSetting) := ⟨mJ_X2_readSetting, ⟨mG_t (by decide +kernel) (List.mem_of_getElem? (i := 396) (by decide +kernel)), mG_t (by decide +kernel) (List.mem_of_getElem? (i := 398) (by decide +kernel)), mG_s (by decide +kernel) (List.mem_of_getElem? (i := 20) (by decide +kernel))⟩⟩
theorem mCa2_14 : mCaOk 2 (67, 1, mX2_readPlan) := ⟨mJ_X2_readPlan, ⟨mG_t (by decide +kernel) (List.mem_of_getElem? (i := 404) (by decide +kernel)), mG_t (by decide +kernel) (List.mem_of_getElem? (i := 406) (by decide +kernel)), mG_s (by decide +kernel) (List.mem_of_getElem? (i := 21) (by decide +kernel))⟩⟩
theorem mCa2_15 : mCaOk 2 (114, 1, mX2_openAgain) := ⟨mJ_X2_openAgain, ⟨mG_t (by decide +kernel) (List.mem_of_getElem? (i := 408) (by decide +kernel)), mG_t (by decide +kernel) (List.mem_of_getElem? (i := 410) (by decide +kernel)), mG_s (by decide +kernel) (List.mem_of_getElem? (i := 22) (by decide +kernel))⟩⟩
theorem mCa2_16 : mCaOk 2 (51, 1, mX2_take) := ⟨mJ_X2_take, ⟨mG_t (by decide +kernel) (List.mem_of_getElem? (i := 412) (by decide +kernel)), mG_t (by decide +kernel) (List.mem_of_getElem? (i := 414) (by decide +kernel)), mG_s (by decide +kernel) (List.mem_of_getElem? (i := 23) (by decide +kernel))⟩⟩
theorem mCa2_17 : mCaOk 2 (117, 1, mX2_closeAgain) := ⟨mJ_X2_closeAgain, ⟨mG_t (by decide +kernel) (List.mem_of_getElem? (i := 416) (by decide +kernel)), mG_t (by decide +kernel) (List.mem_of_getElem? (i := 418) (by decide +kernel)), mG_s (by decide +kernel) (List.mem_of_getElem? (i := 24) (by decide +kernel))⟩⟩
theorem mCa2_18 : mCaOk 2 (123, 4, mX3_repeatKinds) := ⟨mJ_X3_repeatKinds, ⟨List.mem_of_getElem? (i := 420) (by decide +kernel), mG_t (by decide +kernel) (List.mem_of_getElem? (i := 422) (by decide +kernel)), mG_s (by decide +kernel) (List.mem_of_getElem? (i := 25) (by decide +kernel))⟩⟩
theorem mCa2_19 : mCaOk 2 (120, 1, mX2_readDays) := ⟨mJ_X2_readDays, ⟨mG_t (by decide +kernel) (List.mem_of_getElem? (i := 424) (by decide +kernel)), mG_t (by decide +kernel) (List.mem_of_getElem? (i := 426) (by decide +kernel)), mG_s (by decide +kernel) (List.mem_of_getElem? (i := 26) (by decide +kernel))⟩⟩
theorem mCa2_20 : mCaOk 2 (127, 4, mX3_fillKinds) := ⟨mJ_X3_fillKinds, ⟨List.mem_of_getElem? (i := 428) (by decide +kernel), mG_t (by decide +kernel) (List.mem_of_getElem? (i := 430) (by decide +kernel)), mG_s (by decide +kernel) (List.mem_of_getElem? (i := 27) (by decide +kernel))⟩⟩
theorem mCaA2 : ∀ q ∈ mCa 2, mCaOk 2 q := List.forall_mem_cons.mpr ⟨mCa2_0, List.forall_mem_cons.mpr ⟨mCa2_1, List.forall_mem_cons.mpr ⟨mCa2_2, List.forall_mem_cons.mpr ⟨mCa2_3, List.forall_mem_cons.mpr ⟨mCa2_4, List.forall_mem_cons.mpr ⟨mCa2_5, List.forall_mem_cons.mpr ⟨mCa2_6, List.forall_mem_cons.mpr ⟨mCa2_7, List.forall_mem_cons.mpr ⟨mCa2_8, List.forall_mem_cons.mpr ⟨mCa2_9, List.forall_mem_cons.mpr ⟨mCa2_10, List.forall_mem_cons.mpr ⟨mCa2_11, List.forall_mem_cons.mpr ⟨mCa2_12, List.forall_mem_cons.mpr ⟨mCa2_13, List.forall_mem_cons.mpr ⟨mCa2_14, List.forall_mem_cons.mpr ⟨mCa2_15, List.forall_mem_cons.mpr ⟨mCa2_16, List.forall_mem_cons.mpr ⟨mCa2_17, List.forall_mem_cons.mpr ⟨mCa2_18, List.forall_mem_cons.mpr ⟨mCa2_19, List.forall_mem_cons.mpr ⟨mCa2_20, fun _ h => absurd h List.not_mem_nil⟩⟩⟩⟩⟩⟩⟩⟩⟩⟩⟩⟩⟩⟩⟩⟩⟩⟩⟩⟩⟩
theorem mCa4_0 : mCaOk 4 (9, 5, mX3_init) := ⟨mJ_X3_init, ⟨List.mem_of_getElem? (i := 27) (by decide +kernel), mG_t (by decide +kernel) (List.mem_of_getElem? (i := 28) (by decide +kernel)), rfl⟩⟩
theorem mCa4_1 : mCaOk 4 (22, 5, mX2_init) := ⟨mJ_X2_init, ⟨List.mem_of_getElem? (i := 81) (by decide +kernel), mG_t (by decide +kernel) (List.mem_of_getElem? (i := 82) (by decide +kernel)), rfl⟩⟩
theorem mCa4_2 : mCaOk 4 (29, 5, mX0_init) := ⟨mJ_X0_init, ⟨List.mem_of_getElem? (i := 151) (by decide +kernel), mG_t (by decide +kernel) (List.mem_of_getElem? (i := 152) (by decide +kernel)), rfl⟩⟩
theorem mCa4_3 : mCaOk 4 (51, 4, mX1_append) := ⟨mJ_X1_append, ⟨List.mem_of_getElem? (i := 230) (by decide +kernel), mG_t (by decide +kernel) (List.mem_of_getElem? (i := 232) (by decide +kernel)), mG_s (by decide +kernel) (List.mem_of_getElem? (i := 0) (by decide +kernel))⟩⟩
theorem mCa4_4 : mCaOk 4 (55, 4, mX1_split) := ⟨mJ_X1_split, ⟨List.mem_of_getElem? (i := 242) (by decide +kernel), mG_t (by decide +kernel) (List.mem_of_getElem? (i := 244) (by decide +kernel)), mG_s (by decide +kernel) (List.mem_of_getElem? (i := 1) (by decide +kernel))⟩⟩
theorem mCa4_5 : mCaOk 4 (58, 4, mX2_readText) := ⟨mJ_X2_readText, ⟨List.mem_of_getElem? (i := 345) (by decide +kernel), mG_t (by decide +kernel) (List.mem_of_getElem? (i := 347) (by decide +kernel)), mG_s (by decide +kernel) (List.mem_of_getElem? (i := 8) (by decide +kernel))⟩⟩
theorem mCa4_6 : mCaOk 4 (62, 1, mX4_remember) := ⟨mJ_X4_remember, ⟨mG_t (by decide +kernel) (List.mem_of_getElem? (i := 432) (by decide +kernel)), mG_t (by decide +kernel) (List.mem_of_getElem? (i := 434) (by decide +kernel)), mG_s (by decide +kernel) (List.mem_of_getElem? (i := 28) (by decide +kernel))⟩⟩
theorem mCa4_7 : mCaOk 4 (68, 4, mX3_copyFrom) := ⟨mJ_X3_copyFrom, ⟨List.mem_of_getElem? (i := 436) (by decide +kernel), mG_t (by decide +kernel) (List.mem_of_getElem? (i := 351) (by decide +kernel)), mG_s (by decide +kernel) (List.mem_of_getElem? (i := 9) (by decide +kernel))⟩⟩
theorem mCa4_8 : mCaOk 4 (75, 0, mX4_canBeAtFirst) := ⟨mJ_X4_canBeAtFirst, ⟨mG_t (by decide +kernel) (List.mem_of_getElem? (i := 448) (by decide +kernel)), mG_t (by decide +kernel) (List.mem_of_getElem? (i := 449) (by decide +kernel))⟩⟩
theorem mCa4_9 : mCaOk 4 (82, 4, mX3_addGroup) := ⟨mJ_X3_addGroup, ⟨List.mem_of_getElem? (i := 451) (by decide +kernel), mG_t (by decide +kernel) (List.mem_of_getElem? (i := 382) (by decide +kernel)), mG_s (by decide +kernel) (List.mem_of_getElem? (i := 16) (by decide +kernel))⟩⟩
theorem mCa4_10 : mCaOk 4 (89, 0, mX4_canBeSetting) := ⟨mJ_X4_canBeSetting, ⟨mG_t (by decide +kernel) (List.mem_of_getElem? (i := 460) (by decide +kernel)), mG_t (by decide +kernel) (List.mem_of_getElem? (i := 461) (by decide +kernel))⟩⟩
theorem mCa4_11 : mCaOk 4 (96, 0, mX4_areDays) := ⟨mJ_X4_areDays, ⟨mG_t (by decide +kernel) (List.mem_of_getElem? (i := 469) (by decide +kernel)), mG_t (by decide +kernel) (List.mem_of_getElem? (i := 470) (by decide +kernel))⟩⟩
theorem mCa4_12 : mCaOk 4 (145, 0, mX4_isDay) := ⟨mJ_X4_isDay, ⟨mG_t (by decide +kernel) (List.mem_of_getElem? (i := 472) (by decide +kernel)), mG_t (by decide +kernel) (List.mem_of_getElem? (i := 473) (by decide +kernel))⟩⟩
theorem mCa4_13 : mCaOk 4 (102, 4, mX3_addCamp) := ⟨mJ_X3_addCamp, ⟨List.mem_of_getElem? (i := 475) (by decide +kernel), mG_t (by decide +kernel) (List.mem_of_getElem? (i := 394) (by decide +kernel)), mG_s (by decide +kernel) (List.mem_of_getElem? (i := 19) (by decide +kernel))⟩⟩
theorem mCa4_14 : mCaOk 4 (105, 4, mX3_hasCamp) := ⟨mJ_X3_hasCamp, ⟨List.mem_of_getElem? (i := 480) (by decide +kernel), mG_t (by decide +kernel) (List.mem_of_getElem? (i := 482) (by decide +kernel)), mG_s (by decide +kernel) (List.mem_of_getElem? (i := 29) (by decide +kernel))⟩⟩
theorem mCa4_15 : mCaOk 4 (108, 4, mX3_dropCamp) := ⟨mJ_X3_dropCamp, ⟨List.mem_of_getElem? (i := 484) (by decide +kernel), mG_t (by decide +kernel) (List.mem_of_getElem? (i := 486) (by decide +kernel)), mG_s (by decide +kernel) (List.mem_of_getElem? (i := 30) (by decide +kernel))⟩⟩
theorem mCa4_16 : mCaOk 4 (111, 4, mX3_hasGroup) := ⟨mJ_X3_hasGroup, ⟨List.mem_of_getElem? (i := 492) (by decide +kernel), mG_t (by decide +kernel) (List.mem_of_getElem? (i := 494) (by decide +kernel)), mG_s (by decide +kernel) (List.mem_of_getElem? (i := 31) (by decide +kernel))⟩⟩
theorem mCa4_17 : mCaOk 4 (114, 4, mX3_countOthers) := ⟨mJ_X3_countOthers, ⟨List.mem_of_getElem? (i := 496) (by decide +kernel), mG_t (by decide +kernel) (List.mem_of_getElem? (i := 498) (by decide +kernel)), mG_s (by decide +kernel) (List.mem_of_getElem? (i := 32) (by decide +kernel))⟩⟩
theorem mCa4_18 : mCaOk 4 (118, 4, mX3_fillKinds) := ⟨mJ_X3_fillKinds, ⟨List.mem_of_getElem? (i := 500) (by decide +kernel), mG_t (by decide +kernel) (List.mem_of_getElem? (i := 430) (by decide +kernel)), mG_s (by decide +kernel) (List.mem_of_getElem? (i := 27) (by decide +kernel))⟩⟩
theorem mCa4_19 : mCaOk 4 (128, 1, mX4_countNumber) := ⟨mJ_X4_countNumber, ⟨mG_t (by decide +kernel) (List.mem_of_getElem? (i := 509) (by decide +kernel)), mG_t (by decide +kernel) (List.mem_of_getElem? (i := 511) (by decide +kernel)), mG_s (by decide +kernel) (List.mem_of_getElem? (i := 33) (by decide +kernel))⟩⟩
theorem mCa4_20 : mCaOk 4 (148, 4, mX0_follow) := ⟨mJ_X0_follow, ⟨List.mem_of_getElem? (i := 517) (by decide +kernel), mG_t (by decide +kernel) (List.mem_of_getElem? (i := 519) (by decide +kernel)), mG_s (by decide +kernel) (List.mem_of_getElem? (i := 34) (by decide +kernel))⟩⟩
theorem mCa4_21 : mCaOk 4 (162, 4, mX0_isHurt) := ⟨mJ_X0_isHurt, ⟨List.mem_of_getElem? (i := 561) (by decide +kernel), mG_t (by decide +kernel) (List.mem_of_getElem? (i := 536) (by decide +kernel)), mG_s (by decide +kernel) (List.mem_of_getElem? (i := 38) (by decide +kernel))⟩⟩
theorem mCa4_22 : mCaOk 4 (169, 4, mX0_acute) := ⟨mJ_X0_acute, ⟨List.mem_of_getElem? (i := 562) (by decide +kernel), mG_t (by decide +kernel) (List.mem_of_getElem? (i := 552) (by decide +kernel)), mG_s (by decide +kernel) (List.mem_of_getElem? (i := 41) (by decide +kernel))⟩⟩
theorem mCa4_23 : mCaOk 4 (172, 4, mX0_chronic) := ⟨mJ_X0_chronic, ⟨List.mem_of_getElem? (i := 563) (by decide +kernel), mG_t (by decide +kernel) (List.mem_of_getElem? (i := 559) (by decide +kernel)), mG_s (by decide +kernel) (List.mem_of_getElem? (i := 42) (by decide +kernel))⟩⟩
theorem mCa4_24 : mCaOk 4 (176, 1, mX4_formAsTold) := ⟨mJ_X4_formAsTold, ⟨mG_t (by decide +kernel) (List.mem_of_getElem? (i := 569) (by decide +kernel)), mG_t (by decide +kernel) (List.mem_of_getElem? (i := 571) (by decide +kernel)), mG_s (by decide +kernel) (List.mem_of_getElem? (i := 43) (by decide +kernel))⟩⟩
theorem mCa4_25 : mCaOk 4 (183, 4, mX0_formOf) := ⟨mJ_X0_formOf, ⟨List.mem_of_getElem? (i := 573) (by decide +kernel), mG_t (by decide +kernel) (List.mem_of_getElem? (i := 575) (by decide +kernel)), mG_s (by decide +kernel) (List.mem_of_getElem? (i := 44) (by decide +kernel))⟩⟩
theorem mCa4_26 : mCaOk 4 (191, 4, mX0_live) := ⟨mJ_X0_live, ⟨List.mem_of_getElem? (i := 593) (by decide +kernel), mG_t (by decide +kernel) (List.mem_of_getElem? (i := 528) (by decide +kernel)), mG_s (by decide +kernel) (List.mem_of_getElem? (i := 36) (by decide +kernel))⟩⟩
theorem mCa4_27 : mCaOk 4 (200, 4, mX0_tryRows) := ⟨mJ_X0_tryRows, ⟨List.mem_of_getElem? (i := 598) (by decide +kernel), mG_t (by decide +kernel) (List.mem_of_getElem? (i := 600) (by decide +kernel)), mG_s (by decide +kernel) (List.mem_of_getElem? (i := 45) (by decide +kernel))⟩⟩
theorem mCa4_28 : mCaOk 4 (204, 1, mX4_greatestBeside) := ⟨mJ_X4_greatestBeside, ⟨mG_t (by decide +kernel) (List.mem_of_getElem? (i := 612) (by decide +kernel)), mG_t (by decide +kernel) (List.mem_of_getElem? (i := 614) (by decide +kernel)), mG_s (by decide +kernel) (List.mem_of_getElem? (i := 47) (by decide +kernel))⟩⟩
theorem mCa4_29 : mCaOk 4 (207, 4, mX0_liveDay) := ⟨mJ_X0_liveDay, ⟨List.mem_of_getElem? (i := 620) (by decide +kernel), mG_t (by decide +kernel) (List.mem_of_getElem? (i := 532) (by decide +kernel)), mG_s (by decide +kernel) (List.mem_of_getElem? (i := 37) (by decide +kernel))⟩⟩
theorem mCaA4 : ∀ q ∈ mCa 4, mCaOk 4 q := List.forall_mem_cons.mpr ⟨mCa4_0, List.forall_mem_cons.mpr ⟨mCa4_1, List.forall_mem_cons.mpr ⟨mCa4_2, List.forall_mem_cons.mpr ⟨mCa4_3, List.forall_mem_cons.mpr ⟨mCa4_4, List.forall_mem_cons.mpr ⟨mCa4_5, List.forall_mem_cons.mpr ⟨mCa4_6, List.forall_mem_cons.mpr ⟨mCa4_7, List.forall_mem_cons.mpr ⟨mCa4_8, List.forall_mem_cons.mpr ⟨mCa4_9, List.forall_mem_cons.mpr ⟨mCa4_10, List.forall_mem_cons.mpr ⟨mCa4_11, List.forall_mem_cons.mpr ⟨mCa4_12, List.forall_mem_cons.mpr ⟨mCa4_13, List.forall_mem_cons.mpr ⟨mCa4_14, List.forall_mem_cons.mpr ⟨mCa4_15, List.forall_mem_cons.mpr ⟨mCa4_16, List.forall_mem_cons.mpr ⟨mCa4_17, List.forall_mem_cons.mpr ⟨mCa4_18, List.forall_mem_cons.mpr ⟨mCa4_19, List.forall_mem_cons.mpr ⟨mCa4_20, List.forall_mem_cons.mpr ⟨mCa4_21, List.forall_mem_cons.mpr ⟨mCa4_22, List.forall_mem_cons.mpr ⟨mCa4_23, List.forall_mem_cons.mpr ⟨mCa4_24, List.forall_mem_cons.mpr ⟨mCa4_25, List.forall_mem_cons.mpr ⟨mCa4_26, List.forall_mem_cons.mpr ⟨mCa4_27, List.forall_mem_cons.mpr ⟨mCa4_28, List.forall_mem_cons.mpr ⟨mCa4_29, fun _ h => absurd h List.not_mem_nil⟩⟩⟩⟩⟩⟩⟩⟩⟩⟩⟩⟩⟩⟩⟩⟩⟩⟩⟩⟩⟩⟩⟩⟩⟩⟩⟩⟩⟩⟩
theorem mCa5_0 : mCaOk 5 (68, 0, mX5_isIn) := ⟨mJ_X5_isIn, ⟨mG_t (by decide +kernel) (List.mem_of_getElem? (i := 807) (by decide +kernel)), mG_t (by decide +kernel) (List.mem_of_getElem? (i := 808) (by decide +kernel))⟩⟩
theorem mCa5_1 : mCaOk 5 (64, 1, mX5_groups) := ⟨mJ_X5_groups, ⟨mG_t (by decide +kernel) (List.mem_of_getElem? (i := 810) (by decide +kernel)), mG_t (by decide +kernel) (List.mem_of_getElem? (i := 812) (by decide +kernel)), mG_s (by decide +kernel) (List.mem_of_getElem? (i := 49) (by decide +kernel))⟩⟩
theorem mCa5_2 : mCaOk 5 (89, 1, mX5_keeps) := ⟨mJ_X5_keeps, ⟨mG_t (by decide +kernel) (List.mem_of_getElem? (i := 814) (by decide +kernel)), mG_t (by decide +kernel) (List.mem_of_getElem? (i := 816) (by decide +kernel)), mG_s (by decide +kernel) (List.mem_of_getElem? (i := 50) (by decide +kernel))⟩⟩
theorem mCa5_3 : mCaOk 5 (92, 1, mX5_comes) := ⟨mJ_X5_comes, ⟨mG_t (by decide +kernel) (List.mem_of_getElem? (i := 818) (by decide +kernel)), mG_t (by decide +kernel) (List.mem_of_getElem? (i := 820) (by decide +kernel)), mG_s (by decide +kernel) (List.mem_of_getElem? (i := 51) (by decide +kernel))⟩⟩
theorem mCa5_4 : mCaOk 5 (96, 0, mX5_maySet) := ⟨mJ_X5_maySet, ⟨mG_t (by decide +kernel) (List.mem_of_getElem? (i := 830) (by decide +kernel)), mG_t (by decide +kernel) (List.mem_of_getElem? (i := 831) (by decide +kernel))⟩⟩
theorem mCa5_5 : mCaOk 5 (99, 1, mX5_of) := ⟨mJ_X5_of, ⟨mG_t (by decide +kernel) (List.mem_of_getElem? (i := 833) (by decide +kernel)), mG_t (by decide +kernel) (List.mem_of_getElem? (i := 835) (by decide +kernel)), mG_s (by decide +kernel) (List.mem_of_getElem? (i := 52) (by decide +kernel))⟩⟩
theorem mCa5_6 : mCaOk 5 (76, 0, mX5_isDay) := ⟨mJ_X5_isDay, ⟨mG_t (by decide +kernel) (List.mem_of_getElem? (i := 841) (by decide +kernel)), mG_t (by decide +kernel) (List.mem_of_getElem? (i := 842) (by decide +kernel))⟩⟩
theorem mCa5_7 : mCaOk 5 (86, 1, mX5_camps) := ⟨mJ_X5_camps, ⟨mG_t (by decide +kernel) (List.mem_of_getElem? (i := 844) (by decide +kernel)), mG_t (by decide +kernel) (List.mem_of_getElem? (i := 846) (by decide +kernel)), mG_s (by decide +kernel) (List.mem_of_getElem? (i := 53) (by decide +kernel))⟩⟩
theorem mCa5_8 : mCaOk 5 (103, 1, mX5_campComes) := ⟨mJ_X5_campComes, ⟨mG_t (by decide +kernel) (List.mem_of_getElem? (i := 848) (by decide +kernel)), mG_t (by decide +kernel) (List.mem_of_getElem? (i := 850) (by decide +kernel)), mG_s (by decide +kernel) (List.mem_of_getElem? (i := 54) (by decide +kernel))⟩⟩
theorem mCa5_9 : mCaOk 5 (106, 1, mX5_strikes) := ⟨mJ_X5_strikes, ⟨mG_t (by decide +kernel) (List.mem_of_getElem? (i := 856) (by decide +kernel)), mG_t (by decide +kernel) (List.mem_of_getElem? (i := 858) (by decide +kernel)), mG_s (by decide +kernel) (List.mem_of_getElem? (i := 55) (by decide +kernel))⟩⟩
theorem mCa5_10 : mCaOk 5 (110, 1, mX5_areDays) := ⟨mJ_X5_areDays, ⟨mG_t (by decide +kernel) (List.mem_of_getElem? (i := 864) (by decide +kernel)), mG_t (by decide +kernel) (List.mem_of_getElem? (i := 866) (by decide +kernel)), mG_s (by decide +kernel) (List.mem_of_getElem? (i := 56) (by decide +kernel))⟩⟩
theorem mCa5_11 : mCaOk 5 (79, 1, mX5_isOne) := ⟨mJ_X5_isOne, ⟨mG_t (by decide +kernel) (List.mem_of_getElem? (i := 868) (by decide +kernel)), mG_t (by decide +kernel) (List.mem_of_getElem? (i := 870) (by decide +kernel)), mG_s (by decide +kernel) (List.mem_of_getElem? (i := 57) (by decide +kernel))⟩⟩
theorem mCa5_12 : mCaOk 5 (72, 1, mX5_isGroup) := ⟨mJ_X5_isGroup, ⟨mG_t (by decide +kernel) (List.mem_of_getElem? (i := 872) (by decide +kernel)), mG_t (by decide +kernel) (List.mem_of_getElem? (i := 874) (by decide +kernel)), mG_s (by decide +kernel) (List.mem_of_getElem? (i := 58) (by decide +kernel))⟩⟩
theorem mCa5_13 : mCaOk 5 (113, 1, mX5_kindOf) := ⟨mJ_X5_kindOf, ⟨mG_t (by decide +kernel) (List.mem_of_getElem? (i := 876) (by decide +kernel)), mG_t (by decide +kernel) (List.mem_of_getElem? (i := 878) (by decide +kernel)), mG_s (by decide +kernel) (List.mem_of_getElem? (i := 59) (by decide +kernel))⟩⟩
theorem mCa5_14 : mCaOk 5 (120, 1, mX5_put) := ⟨mJ_X5_put, ⟨mG_t (by decide +kernel) (List.mem_of_getElem? (i := 896) (by decide +kernel)), mG_t (by decide +kernel) (List.mem_of_getElem? (i := 898) (by decide +kernel)), mG_s (by decide +kernel) (List.mem_of_getElem? (i := 60) (by decide +kernel))⟩⟩
theorem mCa5_15 : mCaOk 5 (132, 1, mX5_here) := ⟨mJ_X5_here, ⟨mG_t (by decide +kernel) (List.mem_of_getElem? (i := 908) (by decide +kernel)), mG_t (by decide +kernel) (List.mem_of_getElem? (i := 910) (by decide +kernel)), mG_s (by decide +kernel) (List.mem_of_getElem? (i := 61) (by decide +kernel))⟩⟩
theorem mCa5_16 : mCaOk 5 (179, 1, mX5_statement) := ⟨mJ_X5_statement, ⟨mG_t (by decide +kernel) (List.mem_of_getElem? (i := 912) (by decide +kernel)), mG_t (by decide +kernel) (List.mem_of_getElem? (i := 914) (by decide +kernel)), mG_s (by decide +kernel) (List.mem_of_getElem? (i := 62) (by decide +kernel))⟩⟩
theorem mCa5_17 : mCaOk 5 (161, 1, mX5_word) := ⟨mJ_X5_word, ⟨mG_t (by decide +kernel) (List.mem_of_getElem? (i := 916) (by decide +kernel)), mG_t (by decide +kernel) (List.mem_of_getElem? (i := 918) (by decide +kernel)), mG_s (by decide +kernel) (List.mem_of_getElem? (i := 63) (by decide +kernel))⟩⟩
theorem mCa5_18 : mCaOk 5 (145, 0, mX5_letters) := ⟨mJ_X5_letters, ⟨mG_t (by decide +kernel) (List.mem_of_getElem? (i := 920) (by decide +kernel)), mG_t (by decide +kernel) (List.mem_of_getElem? (i := 921) (by decide +kernel))⟩⟩
theorem mCa5_19 : mCaOk 5 (142, 1, mX5_fails) := ⟨mJ_X5_fails, ⟨mG_t (by decide +kernel) (List.mem_of_getElem? (i := 923) (by decide +kernel)), mG_t (by decide +kernel) (List.mem_of_getElem? (i := 925) (by decide +kernel)), mG_s (by decide +kernel) (List.mem_of_getElem? (i := 64) (by decide +kernel))⟩⟩
theorem mCa5_20 : mCaOk 5 (158, 1, mX5_number) := ⟨mJ_X5_number, ⟨mG_t (by decide +kernel) (List.mem_of_getElem? (i := 927) (by decide +kernel)), mG_t (by decide +kernel) (List.mem_of_getElem? (i := 929) (by decide +kernel)), mG_s (by decide +kernel) (List.mem_of_getElem? (i := 65) (by decide +kernel))⟩⟩
theorem mCa5_21 : mCaOk 5 (135, 1, mX5_isNumber) := ⟨mJ_X5_isNumber, ⟨mG_t (by decide +kernel) (List.mem_of_getElem? (i := 931) (by decide +kernel)), mG_t (by decide +kernel) (List.mem_of_getElem? (i := 933) (by decide +kernel)), mG_s (by decide +kernel) (List.mem_of_getElem? (i := 66) (by decide +kernel))⟩⟩
theorem mCa5_22 : mCaOk 5 (164, 0, mX5_kindBy) := ⟨mJ_X5_kindBy, ⟨mG_t (by decide +kernel) (List.mem_of_getElem? (i := 935) (by decide +kernel)), mG_t (by decide +kernel) (List.mem_of_getElem? (i := 936) (by decide +kernel))⟩⟩
theorem mCa5_23 : mCaOk 5 (176, 1, mX5_planTold) := ⟨mJ_X5_planTold, ⟨mG_t (by decide +kernel) (List.mem_of_getElem? (i := 938) (by decide +kernel)), mG_t (by decide +kernel) (List.mem_of_getElem? (i := 940) (by decide +kernel)), mG_s (by decide +kernel) (List.mem_of_getElem? (i := 67) (by decide +kernel))⟩⟩
theorem mCa5_24 : mCaOk 5 (170, 1, mX5_closes) := ⟨mJ_X5_closes, ⟨mG_t (by decide +kernel) (List.mem_of_getElem? (i := 942) (by decide +kernel)), mG_t (by decide +kernel) (List.mem_of_getElem? (i := 944) (by decide +kernel)), mG_s (by decide +kernel) (List.mem_of_getElem? (i := 68) (by decide +kernel))⟩⟩
theorem mCa5_25 : mCaOk 5 (173, 1, mX5_item) := ⟨mJ_X5_item, ⟨mG_t (by decide +kernel) (List.mem_of_getElem? (i := 946) (by decide +kernel)), mG_t (by decide +kernel) (List.mem_of_getElem? (i := 948) (by decide +kernel)), mG_s (by decide +kernel) (List.mem_of_getElem? (i := 69) (by decide +kernel))⟩⟩
theorem mCa5_26 : mCaOk 5 (167, 1, mX5_named) := ⟨mJ_X5_named, ⟨mG_t (by decide +kernel) (List.mem_of_getElem? (i := 950) (by decide +kernel)), mG_t (by decide +kernel) (List.mem_of_getElem? (i := 952) (by decide +kernel)), mG_s (by decide +kernel) (List.mem_of_getElem? (i := 70) (by decide +kernel))⟩⟩
theorem mCa5_27 : mCaOk 5 (194, 1, mX5_goes) := ⟨mJ_X5_goes, ⟨mG_t (by decide +kernel) (List.mem_of_getElem? (i := 962) (by decide +kernel)), mG_t (by decide +kernel) (List.mem_of_getElem? (i := 964) (by decide +kernel)), mG_s (by decide +kernel) (List.mem_of_getElem? (i := 71) (by decide +kernel))⟩⟩
theorem mCa5_28 : mCaOk 5 (185, 1, mX5_isCamp) := ⟨mJ_X5_isCamp, ⟨mG_t (by decide +kernel) (List.mem_of_getElem? (i := 966) (by decide +kernel)), mG_t (by decide +kernel) (List.mem_of_getElem? (i := 968) (by decide +kernel)), mG_s (by decide +kernel) (List.mem_of_getElem? (i := 72) (by decide +kernel))⟩⟩
theorem mCa5_29 : mCaOk 5 (188, 1, mX5_acute) := ⟨mJ_X5_acute, ⟨mG_t (by decide +kernel) (List.mem_of_getElem? (i := 970) (by decide +kernel)), mG_t (by decide +kernel) (List.mem_of_getElem? (i := 972) (by decide +kernel)), mG_s (by decide +kernel) (List.mem_of_getElem? (i := 73) (by decide +kernel))⟩⟩
theorem mCa5_30 : mCaOk 5 (191, 1, mX5_chronic) := ⟨mJ_X5_chronic, ⟨mG_t (by decide +kernel) (List.mem_of_getElem? (i := 974) (by decide +kernel)), mG_t (by decide +kernel) (List.mem_of_getElem? (i := 976) (by decide +kernel)), mG_s (by decide +kernel) (List.mem_of_getElem? (i := 74) (by decide +kernel))⟩⟩
theorem mCa5_31 : mCaOk 5 (200, 1, mX5_formOf) := ⟨mJ_X5_formOf, ⟨mG_t (by decide +kernel) (List.mem_of_getElem? (i := 982) (by decide +kernel)), mG_t (by decide +kernel) (List.mem_of_getElem? (i := 984) (by decide +kernel)), mG_s (by decide +kernel) (List.mem_of_getElem? (i := 75) (by decide +kernel))⟩⟩
theorem mCa5_32 : mCaOk 5 (197, 1, mX5_formAt) := ⟨mJ_X5_formAt, ⟨mG_t (by decide +kernel) (List.mem_of_getElem? (i := 986) (by decide +kernel)), mG_t (by decide +kernel) (List.mem_of_getElem? (i := 988) (by decide +kernel)), mG_s (by decide +kernel) (List.mem_of_getElem? (i := 76) (by decide +kernel))⟩⟩
theorem mCa5_33 : mCaOk 5 (204, 1, mX5_remembers) := ⟨mJ_X5_remembers, ⟨mG_t (by decide +kernel) (List.mem_of_getElem? (i := 1007) (by decide +kernel)), mG_t (by decide +kernel) (List.mem_of_getElem? (i := 1009) (by decide +kernel)), mG_s (by decide +kernel) (List.mem_of_getElem? (i := 77) (by decide +kernel))⟩⟩
theorem mCa5_34 : mCaOk 5 (207, 1, mX5_comesBack) := ⟨mJ_X5_comesBack, ⟨mG_t (by decide +kernel) (List.mem_of_getElem? (i := 1011) (by decide +kernel)), mG_t (by decide +kernel) (List.mem_of_getElem? (i := 1013) (by decide +kernel)), mG_s (by decide +kernel) (List.mem_of_getElem? (i := 78) (by decide +kernel))⟩⟩
theorem mCa5_35 : mCaOk 5 (210, 1, mX5_isHale) := ⟨mJ_X5_isHale, ⟨mG_t (by decide +kernel) (List.mem_of_getElem? (i := 1019) (by decide +kernel)), mG_t (by decide +kernel) (List.mem_of_getElem? (i := 1021) (by decide +kernel)), mG_s (by decide +kernel) (List.mem_of_getElem? (i := 79) (by decide +kernel))⟩⟩
theorem mCaA5 : ∀ q ∈ mCa 5, mCaOk 5 q := List.forall_mem_cons.mpr ⟨mCa5_0, List.forall_mem_cons.mpr ⟨mCa5_1, List.forall_mem_cons.mpr ⟨mCa5_2, List.forall_mem_cons.mpr ⟨mCa5_3, List.forall_mem_cons.mpr ⟨mCa5_4, List.forall_mem_cons.mpr ⟨mCa5_5, List.forall_mem_cons.mpr ⟨mCa5_6, List.forall_mem_cons.mpr ⟨mCa5_7, List.forall_mem_cons.mpr ⟨mCa5_8, List.forall_mem_cons.mpr ⟨mCa5_9, List.forall_mem_cons.mpr ⟨mCa5_10, List.forall_mem_cons.mpr ⟨mCa5_11, List.forall_mem_cons.mpr ⟨mCa5_12, List.forall_mem_cons.mpr ⟨mCa5_13, List.forall_mem_cons.mpr ⟨mCa5_14, List.forall_mem_cons.mpr ⟨mCa5_15, List.forall_mem_cons.mpr ⟨mCa5_16, List.forall_mem_cons.mpr ⟨mCa5_17, List.forall_mem_cons.mpr ⟨mCa5_18, List.forall_mem_cons.mpr ⟨mCa5_19, List.forall_mem_cons.mpr ⟨mCa5_20, List.forall_mem_cons.mpr ⟨mCa5_21, List.forall_mem_cons.mpr ⟨mCa5_22, List.forall_mem_cons.mpr ⟨mCa5_23, List.forall_mem_cons.mpr ⟨mCa5_24, List.forall_mem_cons.mpr ⟨mCa5_25, List.forall_mem_cons.mpr ⟨mCa5_26, List.forall_mem_cons.mpr ⟨mCa5_27, List.forall_mem_cons.mpr ⟨mCa5_28, List.forall_mem_cons.mpr ⟨mCa5_29, List.forall_mem_cons.mpr ⟨mCa5_30, List.forall_mem_cons.mpr ⟨mCa5_31, List.forall_mem_cons.mpr ⟨mCa5_32, List.forall_mem_cons.mpr ⟨mCa5_33, List.forall_mem_cons.mpr ⟨mCa5_34, List.forall_mem_cons.mpr ⟨mCa5_35, fun _ h => absurd h List.not_mem_nil⟩⟩⟩⟩⟩⟩⟩⟩⟩⟩⟩⟩⟩⟩⟩⟩⟩⟩⟩⟩⟩⟩⟩⟩⟩⟩⟩⟩⟩⟩⟩⟩⟩⟩⟩⟩
theorem mCa6_0 : mCaOk 6 (15, 2, mX4_init) := ⟨mJ_X4_init, ⟨mG_t (by decide +kernel) (List.mem_of_getElem? (i := 19) (by decide +kernel)), mG_t (by decide +kernel) (List.mem_of_getElem? (i := 20) (by decide +kernel)), rfl⟩⟩
theorem mCa6_1 : mCaOk 6 (19, 1, mX4_feed) := ⟨mJ_X4_feed, ⟨mG_t (by decide +kernel) (List.mem_of_getElem? (i := 226) (by decide +kernel)), mG_t (by decide +kernel) (List.mem_of_getElem? (i := 227) (by decide +kernel)), mG_t (by decide +kernel) (List.mem_of_getElem? (i := 228) (by decide +kernel))⟩⟩
theorem mCa6_2 : mCaOk 6 (24, 1, mX4_end) := ⟨mJ_X4_end, ⟨mG_t (by decide +kernel) (List.mem_of_getElem? (i := 234) (by decide +kernel)), mG_t (by decide +kernel) (List.mem_of_getElem? (i := 235) (by decide +kernel)), mG_t (by decide +kernel) (List.mem_of_getElem? (i := 236) (by decide +kernel))⟩⟩
theorem mCa6_3 : mCaOk 6 (29, 1, mX4_tell) := ⟨mJ_X4_tell, ⟨mG_t (by decide +kernel) (List.mem_of_getElem? (i := 238) (by decide +kernel)), mG_t (by decide +kernel) (List.mem_of_getElem? (i := 239) (by decide +kernel)), mG_t (by decide +kernel) (List.mem_of_getElem? (i := 240) (by decide +kernel))⟩⟩
theorem mCa6_4 : mCaOk 6 (34, 1, mX4_fault) := ⟨mJ_X4_fault, ⟨mG_t (by decide +kernel) (List.mem_of_getElem? (i := 440) (by decide +kernel)), mG_t (by decide +kernel) (List.mem_of_getElem? (i := 441) (by decide +kernel)), mG_t (by decide +kernel) (List.mem_of_getElem? (i := 442) (by decide +kernel))⟩⟩
theorem mCa6_5 : mCaOk 6 (38, 1, mX4_group) := ⟨mJ_X4_group, ⟨mG_t (by decide +kernel) (List.mem_of_getElem? (i := 444) (by decide +kernel)), mG_t (by decide +kernel) (List.mem_of_getElem? (i := 445) (by decide +kernel)), mG_t (by decide +kernel) (List.mem_of_getElem? (i := 446) (by decide +kernel))⟩⟩
theorem mCa6_6 : mCaOk 6 (43, 1, mX4_load) := ⟨mJ_X4_load, ⟨mG_t (by decide +kernel) (List.mem_of_getElem? (i := 452) (by decide +kernel)), mG_t (by decide +kernel) (List.mem_of_getElem? (i := 453) (by decide +kernel)), mG_t (by decide +kernel) (List.mem_of_getElem? (i := 454) (by decide +kernel))⟩⟩
theorem mCa6_7 : mCaOk 6 (48, 1, mX4_set) := ⟨mJ_X4_set, ⟨mG_t (by decide +kernel) (List.mem_of_getElem? (i := 456) (by decide +kernel)), mG_t (by decide +kernel) (List.mem_of_getElem? (i := 457) (by decide +kernel)), mG_t (by decide +kernel) (List.mem_of_getElem? (i := 458) (by decide +kernel))⟩⟩
theorem mCa6_8 : mCaOk 6 (52, 1, mX4_camp) := ⟨mJ_X4_camp, ⟨mG_t (by decide +kernel) (List.mem_of_getElem? (i := 465) (by decide +kernel)), mG_t (by decide +kernel) (List.mem_of_getElem? (i := 466) (by decide +kernel)), mG_t (by decide +kernel) (List.mem_of_getElem? (i := 467) (by decide +kernel))⟩⟩
theorem mCa6_9 : mCaOk 6 (56, 1, mX4_strike) := ⟨mJ_X4_strike, ⟨mG_t (by decide +kernel) (List.mem_of_getElem? (i := 476) (by decide +kernel)), mG_t (by decide +kernel) (List.mem_of_getElem? (i := 477) (by decide +kernel)), mG_t (by decide +kernel) (List.mem_of_getElem? (i := 478) (by decide +kernel))⟩⟩
theorem mCa6_10 : mCaOk 6 (61, 1, mX4_plan) := ⟨mJ_X4_plan, ⟨mG_t (by decide +kernel) (List.mem_of_getElem? (i := 488) (by decide +kernel)), mG_t (by decide +kernel) (List.mem_of_getElem? (i := 489) (by decide +kernel)), mG_t (by decide +kernel) (List.mem_of_getElem? (i := 490) (by decide +kernel))⟩⟩
theorem mCa6_11 : mCaOk 6 (66, 1, mX4_undo) := ⟨mJ_X4_undo, ⟨mG_t (by decide +kernel) (List.mem_of_getElem? (i := 501) (by decide +kernel)), mG_t (by decide +kernel) (List.mem_of_getElem? (i := 502) (by decide +kernel)), mG_t (by decide +kernel) (List.mem_of_getElem? (i := 503) (by decide +kernel))⟩⟩
theorem mCa6_12 : mCaOk 6 (70, 1, mX4_count) := ⟨mJ_X4_count, ⟨mG_t (by decide +kernel) (List.mem_of_getElem? (i := 505) (by decide +kernel)), mG_t (by decide +kernel) (List.mem_of_getElem? (i := 506) (by decide +kernel)), mG_t (by decide +kernel) (List.mem_of_getElem? (i := 507) (by decide +kernel))⟩⟩
theorem mCa6_13 : mCaOk 6 (83, 1, mX4_day) := ⟨mJ_X4_day, ⟨mG_t (by decide +kernel) (List.mem_of_getElem? (i := 513) (by decide +kernel)), mG_t (by decide +kernel) (List.mem_of_getElem? (i := 514) (by decide +kernel)), mG_t (by decide +kernel) (List.mem_of_getElem? (i := 515) (by decide +kernel))⟩⟩
theorem mCa6_14 : mCaOk 6 (88, 1, mX4_form) := ⟨mJ_X4_form, ⟨mG_t (by decide +kernel) (List.mem_of_getElem? (i := 564) (by decide +kernel)), mG_t (by decide +kernel) (List.mem_of_getElem? (i := 565) (by decide +kernel)), mG_t (by decide +kernel) (List.mem_of_getElem? (i := 566) (by decide +kernel))⟩⟩
theorem mCa6_15 : mCaOk 6 (92, 1, mX4_week) := ⟨mJ_X4_week, ⟨mG_t (by decide +kernel) (List.mem_of_getElem? (i := 577) (by decide +kernel)), mG_t (by decide +kernel) (List.mem_of_getElem? (i := 578) (by decide +kernel)), mG_t (by decide +kernel) (List.mem_of_getElem? (i := 579) (by decide +kernel))⟩⟩
theorem mCa6_16 : mCaOk 6 (96, 1, mX4_injured) := ⟨mJ_X4_injured, ⟨mG_t (by decide +kernel) (List.mem_of_getElem? (i := 581) (by decide +kernel)), mG_t (by decide +kernel) (List.mem_of_getElem? (i := 582) (by decide +kernel)), mG_t (by decide +kernel) (List.mem_of_getElem? (i := 583) (by decide +kernel))⟩⟩
theorem mCa6_17 : mCaOk 6 (100, 1, mX4_peak) := ⟨mJ_X4_peak, ⟨mG_t (by decide +kernel) (List.mem_of_getElem? (i := 585) (by decide +kernel)), mG_t (by decide +kernel) (List.mem_of_getElem? (i := 586) (by decide +kernel)), mG_t (by decide +kernel) (List.mem_of_getElem? (i := 587) (by decide +kernel))⟩⟩
theorem mCa6_18 : mCaOk 6 (104, 1, mX4_taper) := ⟨mJ_X4_taper, ⟨mG_t (by decide +kernel) (List.mem_of_getElem? (i := 589) (by decide +kernel)), mG_t (by decide +kernel) (List.mem_of_getElem? (i := 590) (by decide +kernel)), mG_t (by decide +kernel) (List.mem_of_getElem? (i := 591) (by decide +kernel))⟩⟩
theorem mCa6_19 : mCaOk 6 (108, 1, mX4_best) := ⟨mJ_X4_best, ⟨mG_t (by decide +kernel) (List.mem_of_getElem? (i := 594) (by decide +kernel)), mG_t (by decide +kernel) (List.mem_of_getElem? (i := 595) (by decide +kernel)), mG_t (by decide +kernel) (List.mem_of_getElem? (i := 596) (by decide +kernel))⟩⟩
theorem mCa6_20 : mCaOk 6 (112, 1, mX4_team) := ⟨mJ_X4_team, ⟨mG_t (by decide +kernel) (List.mem_of_getElem? (i := 608) (by decide +kernel)), mG_t (by decide +kernel) (List.mem_of_getElem? (i := 609) (by decide +kernel)), mG_t (by decide +kernel) (List.mem_of_getElem? (i := 610) (by decide +kernel))⟩⟩
theorem mCa6_21 : mCaOk 6 (116, 1, mX4_safe) := ⟨mJ_X4_safe, ⟨mG_t (by decide +kernel) (List.mem_of_getElem? (i := 616) (by decide +kernel)), mG_t (by decide +kernel) (List.mem_of_getElem? (i := 617) (by decide +kernel)), mG_t (by decide +kernel) (List.mem_of_getElem? (i := 618) (by decide +kernel))⟩⟩
theorem mCa6_22 : mCaOk 6 (120, 1, mX4_row) := ⟨mJ_X4_row, ⟨mG_t (by decide +kernel) (List.mem_of_getElem? (i := 621) (by decide +kernel)), mG_t (by decide +kernel) (List.mem_of_getElem? (i := 622) (by decide +kernel)), mG_t (by decide +kernel) (List.mem_of_getElem? (i := 623) (by decide +kernel))⟩⟩
theorem mCa6_23 : mCaOk 6 (124, 1, mX4_swap) := ⟨mJ_X4_swap, ⟨mG_t (by decide +kernel) (List.mem_of_getElem? (i := 626) (by decide +kernel)), mG_t (by decide +kernel) (List.mem_of_getElem? (i := 627) (by decide +kernel)), mG_t (by decide +kernel) (List.mem_of_getElem? (i := 628) (by decide +kernel))⟩⟩
theorem mCa6_24 : mCaOk 6 (128, 1, mX4_without) := ⟨mJ_X4_without, ⟨mG_t (by decide +kernel) (List.mem_of_getElem? (i := 630) (by decide +kernel)), mG_t (by decide +kernel) (List.mem_of_getElem? (i := 631) (by decide +kernel)), mG_t (by decide +kernel) (List.mem_of_getElem? (i := 632) (by decide +kernel))⟩⟩
theorem mCa6_25 : mCaOk 6 (132, 1, mX4_ahead) := ⟨mJ_X4_ahead, ⟨mG_t (by decide +kernel) (List.mem_of_getElem? (i := 634) (by decide +kernel)), mG_t (by decide +kernel) (List.mem_of_getElem? (i := 635) (by decide +kernel)), mG_t (by decide +kernel) (List.mem_of_getElem? (i := 636) (by decide +kernel))⟩⟩
theorem mCa6_26 : mCaOk 6 (7, 1, mX4_camped) := ⟨mJ_X4_camped, ⟨mG_t (by decide +kernel) (List.mem_of_getElem? (i := 642) (by decide +kernel)), mG_t (by decide +kernel) (List.mem_of_getElem? (i := 643) (by decide +kernel)), mG_t (by decide +kernel) (List.mem_of_getElem? (i := 644) (by decide +kernel))⟩⟩
theorem mCa6_27 : mCaOk 6 (18, 2, mX5_init) := ⟨mJ_X5_init, ⟨mG_t (by decide +kernel) (List.mem_of_getElem? (i := 713) (by decide +kernel)), mG_t (by decide +kernel) (List.mem_of_getElem? (i := 714) (by decide +kernel)), rfl⟩⟩
theorem mCa6_28 : mCaOk 6 (80, 1, mX5_thrown) := ⟨mJ_X5_thrown, ⟨mG_t (by decide +kernel) (List.mem_of_getElem? (i := 799) (by decide +kernel)), mG_t (by decide +kernel) (List.mem_of_getElem? (i := 800) (by decide +kernel)), mG_t (by decide +kernel) (List.mem_of_getElem? (i := 801) (by decide +kernel))⟩⟩
theorem mCa6_29 : mCaOk 6 (42, 1, mX5_group) := ⟨mJ_X5_group, ⟨mG_t (by decide +kernel) (List.mem_of_getElem? (i := 803) (by decide +kernel)), mG_t (by decide +kernel) (List.mem_of_getElem? (i := 804) (by decide +kernel)), mG_t (by decide +kernel) (List.mem_of_getElem? (i := 805) (by decide +kernel))⟩⟩
theorem mCa6_30 : mCaOk 6 (47, 1, mX5_load) := ⟨mJ_X5_load, ⟨mG_t (by decide +kernel) (List.mem_of_getElem? (i := 822) (by decide +kernel)), mG_t (by decide +kernel) (List.mem_of_getElem? (i := 823) (by decide +kernel)), mG_t (by decide +kernel) (List.mem_of_getElem? (i := 824) (by decide +kernel))⟩⟩
theorem mCa6_31 : mCaOk 6 (51, 1, mX5_set) := ⟨mJ_X5_set, ⟨mG_t (by decide +kernel) (List.mem_of_getElem? (i := 826) (by decide +kernel)), mG_t (by decide +kernel) (List.mem_of_getElem? (i := 827) (by decide +kernel)), mG_t (by decide +kernel) (List.mem_of_getElem? (i := 828) (by decide +kernel))⟩⟩
theorem mCa6_32 : mCaOk 6 (55, 1, mX5_camp) := ⟨mJ_X5_camp, ⟨mG_t (by decide +kernel) (List.mem_of_getElem? (i := 837) (by decide +kernel)), mG_t (by decide +kernel) (List.mem_of_getElem? (i := 838) (by decide +kernel)), mG_t (by decide +kernel) (List.mem_of_getElem? (i := 839) (by decide +kernel))⟩⟩
theorem mCa6_33 : mCaOk 6 (60, 1, mX5_strike) := ⟨mJ_X5_strike, ⟨mG_t (by decide +kernel) (List.mem_of_getElem? (i := 852) (by decide +kernel)), mG_t (by decide +kernel) (List.mem_of_getElem? (i := 853) (by decide +kernel)), mG_t (by decide +kernel) (List.mem_of_getElem? (i := 854) (by decide +kernel))⟩⟩
theorem mCa6_34 : mCaOk 6 (65, 1, mX5_plan) := ⟨mJ_X5_plan, ⟨mG_t (by decide +kernel) (List.mem_of_getElem? (i := 860) (by decide +kernel)), mG_t (by decide +kernel) (List.mem_of_getElem? (i := 861) (by decide +kernel)), mG_t (by decide +kernel) (List.mem_of_getElem? (i := 862) (by decide +kernel))⟩⟩
theorem mCa6_35 : mCaOk 6 (69, 1, mX5_undo) := ⟨mJ_X5_undo, ⟨mG_t (by decide +kernel) (List.mem_of_getElem? (i := 880) (by decide +kernel)), mG_t (by decide +kernel) (List.mem_of_getElem? (i := 881) (by decide +kernel)), mG_t (by decide +kernel) (List.mem_of_getElem? (i := 882) (by decide +kernel))⟩⟩
theorem mCa6_36 : mCaOk 6 (73, 1, mX5_count) := ⟨mJ_X5_count, ⟨mG_t (by decide +kernel) (List.mem_of_getElem? (i := 884) (by decide +kernel)), mG_t (by decide +kernel) (List.mem_of_getElem? (i := 885) (by decide +kernel)), mG_t (by decide +kernel) (List.mem_of_getElem? (i := 886) (by decide +kernel))⟩⟩
theorem mCa6_37 : mCaOk 6 (79, 1, mX5_camped) := ⟨mJ_X5_camped, ⟨mG_t (by decide +kernel) (List.mem_of_getElem? (i := 888) (by decide +kernel)), mG_t (by decide +kernel) (List.mem_of_getElem? (i := 889) (by decide +kernel)), mG_t (by decide +kernel) (List.mem_of_getElem? (i := 890) (by decide +kernel))⟩⟩
theorem mCa6_38 : mCaOk 6 (23, 1, mX5_feed) := ⟨mJ_X5_feed, ⟨mG_t (by decide +kernel) (List.mem_of_getElem? (i := 892) (by decide +kernel)), mG_t (by decide +kernel) (List.mem_of_getElem? (i := 893) (by decide +kernel)), mG_t (by decide +kernel) (List.mem_of_getElem? (i := 894) (by decide +kernel))⟩⟩
theorem mCa6_39 : mCaOk 6 (28, 1, mX5_end) := ⟨mJ_X5_end, ⟨mG_t (by decide +kernel) (List.mem_of_getElem? (i := 900) (by decide +kernel)), mG_t (by decide +kernel) (List.mem_of_getElem? (i := 901) (by decide +kernel)), mG_t (by decide +kernel) (List.mem_of_getElem? (i := 902) (by decide +kernel))⟩⟩
theorem mCa6_40 : mCaOk 6 (33, 1, mX5_tell) := ⟨mJ_X5_tell, ⟨mG_t (by decide +kernel) (List.mem_of_getElem? (i := 904) (by decide +kernel)), mG_t (by decide +kernel) (List.mem_of_getElem? (i := 905) (by decide +kernel)), mG_t (by decide +kernel) (List.mem_of_getElem? (i := 906) (by decide +kernel))⟩⟩
theorem mCa6_41 : mCaOk 6 (37, 1, mX5_fault) := ⟨mJ_X5_fault, ⟨mG_t (by decide +kernel) (List.mem_of_getElem? (i := 954) (by decide +kernel)), mG_t (by decide +kernel) (List.mem_of_getElem? (i := 955) (by decide +kernel)), mG_t (by decide +kernel) (List.mem_of_getElem? (i := 956) (by decide +kernel))⟩⟩
theorem mCa6_42 : mCaOk 6 (87, 1, mX5_day) := ⟨mJ_X5_day, ⟨mG_t (by decide +kernel) (List.mem_of_getElem? (i := 958) (by decide +kernel)), mG_t (by decide +kernel) (List.mem_of_getElem? (i := 959) (by decide +kernel)), mG_t (by decide +kernel) (List.mem_of_getElem? (i := 960) (by decide +kernel))⟩⟩
theorem mCa6_43 : mCaOk 6 (91, 1, mX5_form) := ⟨mJ_X5_form, ⟨mG_t (by decide +kernel) (List.mem_of_getElem? (i := 978) (by decide +kernel)), mG_t (by decide +kernel) (List.mem_of_getElem? (i := 979) (by decide +kernel)), mG_t (by decide +kernel) (List.mem_of_getElem? (i := 980) (by decide +kernel))⟩⟩
theorem mCa6_44 : mCaOk 6 (95, 1, mX5_week) := ⟨mJ_X5_week, ⟨mG_t (by decide +kernel) (List.mem_of_getElem? (i := 991) (by decide +kernel)), mG_t (by decide +kernel) (List.mem_of_getElem? (i := 992) (by decide +kernel)), mG_t (by decide +kernel) (List.mem_of_getElem? (i := 993) (by decide +kernel))⟩⟩
theorem mCa6_45 : mCaOk 6 (99, 1, mX5_injured) := ⟨mJ_X5_injured, ⟨mG_t (by decide +kernel) (List.mem_of_getElem? (i := 995) (by decide +kernel)), mG_t (by decide +kernel) (List.mem_of_getElem? (i := 996) (by decide +kernel)), mG_t (by decide +kernel) (List.mem_of_getElem? (i := 997) (by decide +kernel))⟩⟩
theorem mCa6_46 : mCaOk 6 (103, 1, mX5_peak) := ⟨mJ_X5_peak, ⟨mG_t (by decide +kernel) (List.mem_of_getElem? (i := 999) (by decide +kernel)), mG_t (by decide +kernel) (List.mem_of_getElem? (i := 1000) (by decide +kernel)), mG_t (by decide +kernel) (List.mem_of_getElem? (i := 1001) (by decide +kernel))⟩⟩
theorem mCa6_47 : mCaOk 6 (107, 1, mX5_taper) := ⟨mJ_X5_taper, ⟨mG_t (by decide +kernel) (List.mem_of_getElem? (i := 1003) (by decide +kernel)), mG_t (by decide +kernel) (List.mem_of_getElem? (i := 1004) (by decide +kernel)), mG_t (by decide +kernel) (List.mem_of_getElem? (i := 1005) (by decide +kernel))⟩⟩
theorem mCa6_48 : mCaOk 6 (111, 1, mX5_best) := ⟨mJ_X5_best, ⟨mG_t (by decide +kernel) (List.mem_of_getElem? (i := 1015) (by decide +kernel)), mG_t (by decide +kernel) (List.mem_of_getElem? (i := 1016) (by decide +kernel)), mG_t (by decide +kernel) (List.mem_of_getElem? (i := 1017) (by decide +kernel))⟩⟩
theorem mCa6_49 : mCaOk 6 (115, 1, mX5_team) := ⟨mJ_X5_team, ⟨mG_t (by decide +kernel) (List.mem_of_getElem? (i := 1023) (by decide +kernel)), mG_t (by decide +kernel) (List.mem_of_getElem? (i := 1024) (by decide +kernel)), mG_t (by decide +kernel) (List.mem_of_getElem? (i := 1025) (by decide +kernel))⟩⟩
theorem mCa6_50 : mCaOk 6 (119, 1, mX5_safe) := ⟨mJ_X5_safe, ⟨mG_t (by decide +kernel) (List.mem_of_getElem? (i := 1027) (by decide +kernel)), mG_t (by decide +kernel) (List.mem_of_getElem? (i := 1028) (by decide +kernel)), mG_t (by decide +kernel) (List.mem_of_getElem? (i := 1029) (by decide +kernel))⟩⟩
theorem mCa6_51 : mCaOk 6 (123, 1, mX5_row) := ⟨mJ_X5_row, ⟨mG_t (by decide +kernel) (List.mem_of_getElem? (i := 1031) (by decide +kernel)), mG_t (by decide +kernel) (List.mem_of_getElem? (i := 1032) (by decide +kernel)), mG_t (by decide +kernel) (List.mem_of_getElem? (i := 1033) (by decide +kernel))⟩⟩
theorem mCa6_52 : mCaOk 6 (127, 1, mX5_swap) := ⟨mJ_X5_swap, ⟨mG_t (by decide +kernel) (List.mem_of_getElem? (i := 1035) (by decide +kernel)), mG_t (by decide +kernel) (List.mem_of_getElem? (i := 1036) (by decide +kernel)), mG_t (by decide +kernel) (List.mem_of_getElem? (i := 1037) (by decide +kernel))⟩⟩
theorem mCa6_53 : mCaOk 6 (131, 1, mX5_without) := ⟨mJ_X5_without, ⟨mG_t (by decide +kernel) (List.mem_of_getElem? (i := 1039) (by decide +kernel)), mG_t (by decide +kernel) (List.mem_of_getElem? (i := 1040) (by decide +kernel)), mG_t (by decide +kernel) (List.mem_of_getElem? (i := 1041) (by decide +kernel))⟩⟩
theorem mCa6_54 : mCaOk 6 (135, 1, mX5_ahead) := ⟨mJ_X5_ahead, ⟨mG_t (by decide +kernel) (List.mem_of_getElem? (i := 1043) (by decide +kernel)), mG_t (by decide +kernel) (List.mem_of_getElem? (i := 1044) (by decide +kernel)), mG_t (by decide +kernel) (List.mem_of_getElem? (i := 1045) (by decide +kernel))⟩⟩
theorem mCaA6 : ∀ q ∈ mCa 6, mCaOk 6 q := List.forall_mem_cons.mpr ⟨mCa6_0, List.forall_mem_cons.mpr ⟨mCa6_1, List.forall_mem_cons.mpr ⟨mCa6_2, List.forall_mem_cons.mpr ⟨mCa6_3, List.forall_mem_cons.mpr ⟨mCa6_4, List.forall_mem_cons.mpr ⟨mCa6_5, List.forall_mem_cons.mpr ⟨mCa6_6, List.forall_mem_cons.mpr ⟨mCa6_7, List.forall_mem_cons.mpr ⟨mCa6_8, List.forall_mem_cons.mpr ⟨mCa6_9, List.forall_mem_cons.mpr ⟨mCa6_10, List.forall_mem_cons.mpr ⟨mCa6_11, List.forall_mem_cons.mpr ⟨mCa6_12, List.forall_mem_cons.mpr ⟨mCa6_13, List.forall_mem_cons.mpr ⟨mCa6_14, List.forall_mem_cons.mpr ⟨mCa6_15, List.forall_mem_cons.mpr ⟨mCa6_16, List.forall_mem_cons.mpr ⟨mCa6_17, List.forall_mem_cons.mpr ⟨mCa6_18, List.forall_mem_cons.mpr ⟨mCa6_19, List.forall_mem_cons.mpr ⟨mCa6_20, List.forall_mem_cons.mpr ⟨mCa6_21, List.forall_mem_cons.mpr ⟨mCa6_22, List.forall_mem_cons.mpr ⟨mCa6_23, List.forall_mem_cons.mpr ⟨mCa6_24, List.forall_mem_cons.mpr ⟨mCa6_25, List.forall_mem_cons.mpr ⟨mCa6_26, List.forall_mem_cons.mpr ⟨mCa6_27, List.forall_mem_cons.mpr ⟨mCa6_28, List.forall_mem_cons.mpr ⟨mCa6_29, List.forall_mem_cons.mpr ⟨mCa6_30, List.forall_mem_cons.mpr ⟨mCa6_31, List.forall_mem_cons.mpr ⟨mCa6_32, List.forall_mem_cons.mpr ⟨mCa6_33, List.forall_mem_cons.mpr ⟨mCa6_34, List.forall_mem_cons.mpr ⟨mCa6_35, List.forall_mem_cons.mpr ⟨mCa6_36, List.forall_mem_cons.mpr ⟨mCa6_37, List.forall_mem_cons.mpr ⟨mCa6_38, List.forall_mem_cons.mpr ⟨mCa6_39, List.forall_mem_cons.mpr ⟨mCa6_40, List.forall_mem_cons.mpr ⟨mCa6_41, List.forall_mem_cons.mpr ⟨mCa6_42, List.forall_mem_cons.mpr ⟨mCa6_43, List.forall_mem_cons.mpr ⟨mCa6_44, List.forall_mem_cons.mpr ⟨mCa6_45, List.forall_mem_cons.mpr ⟨mCa6_46, List.forall_mem_cons.mpr ⟨mCa6_47, List.forall_mem_cons.mpr ⟨mCa6_48, List.forall_mem_cons.mpr ⟨mCa6_49, List.forall_mem_cons.mpr ⟨mCa6_50, List.forall_mem_cons.mpr ⟨mCa6_51, List.forall_mem_cons.mpr ⟨mCa6_52, List.forall_mem_cons.mpr ⟨mCa6_53, List.forall_mem_cons.mpr ⟨mCa6_54, fun _ h => absurd h List.not_mem_nil⟩⟩⟩⟩⟩⟩⟩⟩⟩⟩⟩⟩⟩⟩⟩⟩⟩⟩⟩⟩⟩⟩⟩⟩⟩⟩⟩⟩⟩⟩⟩⟩⟩⟩⟩⟩⟩⟩⟩⟩⟩⟩⟩⟩⟩⟩⟩⟩⟩⟩⟩⟩⟩⟩⟩
theorem mCa_ok : ∀ (o : Nat), ∀ q ∈ mCa o, mCaOk o q := fun o => match o with
  | 0 => mCaA0
  | 1 => mCaA1
  | 2 => mCaA2
  | 3 => fun _ h => absurd h List.not_mem_nil
  | 4 => mCaA4
  | 5 => mCaA5
  | 6 => mCaA6
  | n + 7 => fun _ h => absurd h List.not_mem_nil
def mLiOk (o : Nat) (q : Nat × Nat) : Prop := match q.2 with
  | 0 => Cond.methodLink (mOwn.getD o "") q.1 Lib.objectInit ∈ mGood
  | 1 => Cond.methodLink (mOwn.getD o "") q.1 Lib.Math.min.name ∈ mGood
  | 2 => Cond.methodLink (mOwn.getD o "") q.1 Lib.Math.max.name ∈ mGood
  | 3 => Cond.methodLink (mOwn.getD o "") q.1 arraycopyName ∈ mGood
  | _ => False
theorem mLi0_0 : mLiOk 0 (3, 0) := mG_t (by decide +kernel) (List.mem_of_getElem? (i := 154) (by decide +kernel))
theorem mLi0_1 : mLiOk 0 (46, 3) := mG_t (by decide +kernel) (List.mem_of_getElem? (i := 521) (by decide +kernel))
theorem mLi0_2 : mLiOk 0 (94, 1) := mG_t (by decide +kernel) (List.mem_of_getElem? (i := 542) (by decide +kernel))
theorem mLi0_3 : mLiOk 0 (106, 2) := mG_t (by decide +kernel) (List.mem_of_getElem? (i := 554) (by decide +kernel))
theorem mLiA0 : ∀ q ∈ mLi 0, mLiOk 0 q := List.forall_mem_cons.mpr ⟨mLi0_0, List.forall_mem_cons.mpr ⟨mLi0_1, List.forall_mem_cons.mpr ⟨mLi0_2, List.forall_mem_cons.mpr ⟨mLi0_3, fun _ h => absurd h List.not_mem_nil⟩⟩⟩⟩
theorem mLi1_0 : mLiOk 1 (3, 0) := mG_t (by decide +kernel) (List.mem_of_getElem? (i := 90) (by decide +kernel))
theorem mLiA1 : ∀ q ∈ mLi 1, mLiOk 1 q := List.forall_mem_cons.mpr ⟨mLi1_0, fun _ h => absurd h List.not_mem_nil⟩
theorem mLi2_0 : mLiOk 2 (3, 0) := mG_t (by decide +kernel) (List.mem_of_getElem? (i := 84) (by decide +kernel))
theorem mLiA2 : ∀ q ∈ mLi 2, mLiOk 2 q := List.forall_mem_cons.mpr ⟨mLi2_0, fun _ h => absurd h List.not_mem_nil⟩
theorem mLi3_0 : mLiOk 3 (3, 0) := mG_t (by decide +kernel) (List.mem_of_getElem? (i := 30) (by decide +kernel))
theorem mLi3_1 : mLiOk 3 (37, 3) := mG_t (by decide +kernel) (List.mem_of_getElem? (i := 353) (by decide +kernel))
theorem mLiA3 : ∀ q ∈ mLi 3, mLiOk 3 q := List.forall_mem_cons.mpr ⟨mLi3_0, List.forall_mem_cons.mpr ⟨mLi3_1, fun _ h => absurd h List.not_mem_nil⟩⟩
theorem mLi4_0 : mLiOk 4 (1, 0) := mG_t (by decide +kernel) (List.mem_of_getElem? (i := 22) (by decide +kernel))
theorem mLi4_1 : mLiOk 4 (186, 1) := mG_t (by decide +kernel) (List.mem_of_getElem? (i := 437) (by decide +kernel))
theorem mLi4_2 : mLiOk 4 (210, 2) := mG_t (by decide +kernel) (List.mem_of_getElem? (i := 625) (by decide +kernel))
theorem mLiA4 : ∀ q ∈ mLi 4, mLiOk 4 q := List.forall_mem_cons.mpr ⟨mLi4_0, List.forall_mem_cons.mpr ⟨mLi4_1, List.forall_mem_cons.mpr ⟨mLi4_2, fun _ h => absurd h List.not_mem_nil⟩⟩⟩
theorem mLi5_0 : mLiOk 5 (1, 0) := mG_t (by decide +kernel) (List.mem_of_getElem? (i := 716) (by decide +kernel))
theorem mLiA5 : ∀ q ∈ mLi 5, mLiOk 5 q := List.forall_mem_cons.mpr ⟨mLi5_0, fun _ h => absurd h List.not_mem_nil⟩
theorem mLi_ok : ∀ (o : Nat), ∀ q ∈ mLi o, mLiOk o q := fun o => match o with
  | 0 => mLiA0
  | 1 => mLiA1
  | 2 => mLiA2
  | 3 => mLiA3
  | 4 => mLiA4
  | 5 => mLiA5
  | n + 6 => fun _ h => absurd h List.not_mem_nil
theorem mW_oi : Cond.instanceMethod Lib.objectInit ∈ mGood := mG_t (by decide +kernel) (List.mem_of_getElem? (i := 23) (by decide +kernel))
theorem mW_oc : Cond.code Lib.objectInit ⟨#[0xb1]⟩ 1 none ∈ mGood := mG_t (by decide +kernel) (List.mem_of_getElem? (i := 24) (by decide +kernel))
theorem mW_mins : Cond.static Lib.Math.min.name ∈ mGood := mG_t (by decide +kernel) (List.mem_of_getElem? (i := 438) (by decide +kernel))
theorem mW_minc : Cond.code Lib.Math.min.name Lib.Math.min.code 2 (some .int) ∈ mGood := mG_t (by decide +kernel) (List.mem_of_getElem? (i := 439) (by decide +kernel))
theorem mW_maxs : Cond.static Lib.Math.max.name ∈ mGood := mG_t (by decide +kernel) (List.mem_of_getElem? (i := 555) (by decide +kernel))
theorem mW_maxc : Cond.code Lib.Math.max.name Lib.Math.max.code 2 (some .int) ∈ mGood := mG_t (by decide +kernel) (List.mem_of_getElem? (i := 556) (by decide +kernel))
theorem mW_math : Cond.initialized "java/lang/Math" ∈ mGood := mG_t (by decide +kernel) (List.mem_of_getElem? (i := 12) (by decide +kernel))
theorem mW_sys : Cond.initialized "java/lang/System" ∈ mGood := mG_t (by decide +kernel) (List.mem_of_getElem? (i := 11) (by decide +kernel))
theorem mW_acn : Cond.native arraycopyName ∈ mGood := mG_t (by decide +kernel) (List.mem_of_getElem? (i := 355) (by decide +kernel))
theorem mW_acs : Cond.static arraycopyName ∈ mGood := mG_t (by decide +kernel) (List.mem_of_getElem? (i := 354) (by decide +kernel))
theorem mW_aint : Cond.arrayClass .int ∈ mGood := mG_t (by decide +kernel) (List.mem_of_getElem? (i := 77) (by decide +kernel))
theorem mW_abyte : Cond.arrayClass .byte ∈ mGood := mG_t (by decide +kernel) (List.mem_of_getElem? (i := 115) (by decide +kernel))
theorem mW_aboolean : Cond.arrayClass .boolean ∈ mGood := mG_t (by decide +kernel) (List.mem_of_getElem? (i := 200) (by decide +kernel))
theorem mW_along : Cond.arrayClass .long ∈ mGood := mG_t (by decide +kernel) (List.mem_of_getElem? (i := 1047) (by decide +kernel))
theorem mCo_ok : ∀ (o : Nat), ∀ q ∈ mCo o, Cond.constant (mOwn.getD o "") q.1 q.2 ∈ mGood := fun o => match o with
  | 0 => fun _ h => absurd h List.not_mem_nil
  | 1 => fun _ h => absurd h List.not_mem_nil
  | 2 => fun _ h => absurd h List.not_mem_nil
  | 3 => fun _ h => absurd h List.not_mem_nil
  | 4 => List.forall_mem_cons.mpr ⟨mG_t (by decide +kernel) (List.mem_of_getElem? (i := 568) (by decide +kernel)), fun _ h => absurd h List.not_mem_nil⟩
  | 5 => List.forall_mem_cons.mpr ⟨mG_t (by decide +kernel) (List.mem_of_getElem? (i := 990) (by decide +kernel)), fun _ h => absurd h List.not_mem_nil⟩
  | n + 6 => fun _ h => absurd h List.not_mem_nil
def mNwOk (o : Nat) (q : Nat × Nat) : Prop := ∃ r : vw_C, mCl[q.2]? = some r ∧ Cond.classLink (mOwn.getD o "") q.1 r.1 ∈ mGood ∧ Cond.instantiable r.1 r.2.2 ∈ mGood ∧ Cond.initialized r.1 ∈ mGood
theorem mNw2_0 : mNwOk 2 (9, 1) := ⟨_, rfl, mG_t (by decide +kernel) (List.mem_of_getElem? (i := 85) (by decide +kernel)), mG_t (by decide +kernel) (List.mem_of_getElem? (i := 86) (by decide +kernel)), mG_t (by decide +kernel) (List.mem_of_getElem? (i := 4) (by decide +kernel))⟩
theorem mNw2_1 : mNwOk 2 (18, 3) := ⟨_, rfl, mG_t (by decide +kernel) (List.mem_of_getElem? (i := 116) (by decide +kernel)), mG_t (by decide +kernel) (List.mem_of_getElem? (i := 26) (by decide +kernel)), mG_t (by decide +kernel) (List.mem_of_getElem? (i := 2) (by decide +kernel))⟩
theorem mNwA2 : ∀ q ∈ mNw 2, mNwOk 2 q := List.forall_mem_cons.mpr ⟨mNw2_0, List.forall_mem_cons.mpr ⟨mNw2_1, fun _ h => absurd h List.not_mem_nil⟩⟩
theorem mNw4_0 : mNwOk 4 (7, 3) := ⟨_, rfl, mG_t (by decide +kernel) (List.mem_of_getElem? (i := 25) (by decide +kernel)), mG_t (by decide +kernel) (List.mem_of_getElem? (i := 26) (by decide +kernel)), mG_t (by decide +kernel) (List.mem_of_getElem? (i := 2) (by decide +kernel))⟩
theorem mNw4_1 : mNwOk 4 (20, 2) := ⟨_, rfl, mG_t (by decide +kernel) (List.mem_of_getElem? (i := 79) (by decide +kernel)), mG_t (by decide +kernel) (List.mem_of_getElem? (i := 80) (by decide +kernel)), mG_t (by decide +kernel) (List.mem_of_getElem? (i := 3) (by decide +kernel))⟩
theorem mNw4_2 : mNwOk 4 (27, 0) := ⟨_, rfl, mG_t (by decide +kernel) (List.mem_of_getElem? (i := 149) (by decide +kernel)), mG_t (by decide +kernel) (List.mem_of_getElem? (i := 150) (by decide +kernel)), mG_t (by decide +kernel) (List.mem_of_getElem? (i := 5) (by decide +kernel))⟩
theorem mNwA4 : ∀ q ∈ mNw 4, mNwOk 4 q := List.forall_mem_cons.mpr ⟨mNw4_0, List.forall_mem_cons.mpr ⟨mNw4_1, List.forall_mem_cons.mpr ⟨mNw4_2, fun _ h => absurd h List.not_mem_nil⟩⟩⟩
theorem mNw6_0 : mNwOk 6 (8, 4) := ⟨_, rfl, mG_t (by decide +kernel) (List.mem_of_getElem? (i := 17) (by decide +kernel)), mG_t (by decide +kernel) (List.mem_of_getElem? (i := 18) (by decide +kernel)), mG_t (by decide +kernel) (List.mem_of_getElem? (i := 1) (by decide +kernel))⟩
theorem mNw6_1 : mNwOk 6 (16, 5) := ⟨_, rfl, mG_t (by decide +kernel) (List.mem_of_getElem? (i := 711) (by decide +kernel)), mG_t (by decide +kernel) (List.mem_of_getElem? (i := 712) (by decide +kernel)), mG_t (by decide +kernel) (List.mem_of_getElem? (i := 6) (by decide +kernel))⟩
theorem mNwA6 : ∀ q ∈ mNw 6, mNwOk 6 q := List.forall_mem_cons.mpr ⟨mNw6_0, List.forall_mem_cons.mpr ⟨mNw6_1, fun _ h => absurd h List.not_mem_nil⟩⟩
theorem mNw_ok : ∀ (o : Nat), ∀ q ∈ mNw o, mNwOk o q := fun o => match o with
  | 0 => fun _ h => absurd h List.not_mem_nil
  | 1 => fun _ h => absurd h List.not_mem_nil
  | 2 => mNwA2
  | 3 => fun _ h => absurd h List.not_mem_nil
  | 4 => mNwA4
  | 5 => fun _ h => absurd h List.not_mem_nil
  | 6 => mNwA6
  | n + 7 => fun _ h => absurd h List.not_mem_nil
def mGsN : Nat → String := fun k => if k = 0 then "LEAST_SETTINGS" else "MOST_SETTINGS"
def mGsOk (o : Nat) (q : Nat × Nat × Bool) : Prop := q.2.1 < 2 ∧ if q.2.2 = true then Cond.fieldLinkNest (mOwn.getD o "") q.1 RX4 (mGsN q.2.1) "[I" RX4 ∈ tables_1 else Cond.fieldLink (mOwn.getD o "") q.1 RX4 (mGsN q.2.1) "[I" ∈ tables_1
theorem mGs_ok : ∀ (o : Nat), ∀ q ∈ mGs o, mGsOk o q := fun o => match o with
  | 0 => fun _ h => absurd h List.not_mem_nil
  | 1 => fun _ h => absurd h List.not_mem_nil
  | 2 => List.forall_mem_cons.mpr ⟨⟨by decide, List.mem_of_getElem? (i := 400) (by decide +kernel)⟩, List.forall_mem_cons.mpr ⟨⟨by decide, List.mem_of_getElem? (i := 402) (by decide +kernel)⟩, fun _ h => absurd h List.not_mem_nil⟩⟩
  | 3 => fun _ h => absurd h List.not_mem_nil
  | 4 => List.forall_mem_cons.mpr ⟨⟨by decide, List.mem_of_getElem? (i := 463) (by decide +kernel)⟩, List.forall_mem_cons.mpr ⟨⟨by decide, List.mem_of_getElem? (i := 464) (by decide +kernel)⟩, fun _ h => absurd h List.not_mem_nil⟩⟩
  | 5 => fun _ h => absurd h List.not_mem_nil
  | 6 => fun _ h => absurd h List.not_mem_nil
  | n + 7 => fun _ h => absurd h List.not_mem_nil
end
section
/-! ===== the small machine: a rule an instruction ===== -/
section RU
variable {G : mG} {I : mI} {d mc ms pc : Nat} {lo : List (Option Value)} {st : List Value} {μ : List va_E} {ex : Bool} {nc ns : Nat} {Q : mQ}
theorem T_iconst {n : Int} {v : Int32} (hd : decode I.2.1 pc = .ok (.iconst n, 1)) (hv : Int32.ofInt n = v) (k : mT G I d mc ms (pc + 1) lo (.int v :: st) μ ex nc ns Q) : mT G I d mc ms pc lo st μ ex nc ns Q := by
  intro p e s m args below meth c H locs ls F hP hS hX hl hn hc
  exact lv_iconst F.1 F.2.1 hd hv (k p e s m args below meth c H locs ls F hP hS hX hl hn hc)
theorem T_bipush {n : Int} {v : Int32} (hd : decode I.2.1 pc = .ok (.bipush n, 2)) (hv : (Int8.ofInt n).toInt32 = v) (k : mT G I d mc ms (pc + 2) lo (.int v :: st) μ ex nc ns Q) : mT G I d mc ms pc lo st μ ex nc ns Q := by
  intro p e s m args below meth c H locs ls F hP hS hX hl hn hc
  exact lv_bipush F.1 F.2.1 hd hv (k p e s m args below meth c H locs ls F hP hS hX hl hn hc)
theorem T_sipush {n : Int} {v : Int32} (hd : decode I.2.1 pc = .ok (.sipush n, 3)) (hv : (Int16.ofInt n).toInt32 = v) (k : mT G I d mc ms (pc + 3) lo (.int v :: st) μ ex nc ns Q) : mT G I d mc ms pc lo st μ ex nc ns Q := by
  intro p e s m args below meth c H locs ls F hP hS hX hl hn hc
  exact lv_sipush F.1 F.2.1 hd hv (k p e s m args below meth c H locs ls F hP hS hX hl hn hc)
theorem T_iload_n {k0 : Fin 4} {x : Int32} (hd : decode I.2.1 pc = .ok (.iload_n k0, 1)) (hx : lo[(k0 : Nat)]? = some (some (.int x))) (k : mT G I d mc ms (pc + 1) lo (.int x :: st) μ ex nc ns Q) : mT G I d mc ms pc lo st μ ex nc ns Q := by
  intro p e s m args below meth c H locs ls F hP hS hX hl hn hc
  exact lv_iload_n F.1 F.2.1 hd rfl (mPr_at hl hx) (k p e s m args below meth c H locs ls F hP hS hX hl hn hc)
theorem T_iload {i : Nat} {x : Int32} (hd : decode I.2.1 pc = .ok (.iload i, 2)) (hx : lo[i]? = some (some (.int x))) (k : mT G I d mc ms (pc + 2) lo (.int x :: st) μ ex nc ns Q) : mT G I d mc ms pc lo st μ ex nc ns Q := by
  intro p e s m args below meth c H locs ls F hP hS hX hl hn hc
  exact lv_iload F.1 F.2.1 hd (mPr_at hl hx) (k p e s m args below meth c H locs ls F hP hS hX hl hn hc)
theorem T_aload_n {k0 : Fin 4} {x : Nat} (hd : decode I.2.1 pc = .ok (.aload_n k0, 1)) (hx : lo[(k0 : Nat)]? = some (some (.ref x))) (k : mT G I d mc ms (pc + 1) lo (.ref x :: st) μ ex nc ns Q) : mT G I d mc ms pc lo st μ ex nc ns Q := by
  intro p e s m args below meth c H locs ls F hP hS hX hl hn hc
  exact lv_aload_n F.1 F.2.1 hd rfl (mPr_at hl hx) (k p e s m args below meth c H locs ls F hP hS hX hl hn hc)
theorem T_aload {i : Nat} {x : Nat} (hd : decode I.2.1 pc = .ok (.aload i, 2)) (hx : lo[i]? = some (some (.ref x))) (k : mT G I d mc ms (pc + 2) lo (.ref x :: st) μ ex nc ns Q) : mT G I d mc ms pc lo st μ ex nc ns Q := by
  intro p e s m args below meth c H locs ls F hP hS hX hl hn hc
  exact lv_aload F.1 F.2.1 hd (mPr_at hl hx) (k p e s m args below meth c H locs ls F hP hS hX hl hn hc)
theorem T_iadd {x y : Int32} (hd : decode I.2.1 pc = .ok (.iadd, 1))  (k : mT G I d mc ms (pc + 1) lo (.int (x + y) :: st) μ ex nc ns Q) : mT G I d mc ms pc lo (.int y :: .int x :: st) μ ex nc ns Q := by
  intro p e s m args below meth c H locs ls F hP hS hX hl hn hc
  exact lv_iadd F.1 F.2.1 hd (k p e s m args below meth c H locs ls F hP hS hX hl hn hc)
theorem T_isub {x y : Int32} (hd : decode I.2.1 pc = .ok (.isub, 1))  (k : mT G I d mc ms (pc + 1) lo (.int (x - y) :: st) μ ex nc ns Q) : mT G I d mc ms pc lo (.int y :: .int x :: st) μ ex nc ns Q := by
  intro p e s m args below meth c H locs ls F hP hS hX hl hn hc
  exact lv_isub F.1 F.2.1 hd (k p e s m args below meth c H locs ls F hP hS hX hl hn hc)
theorem T_imul {x y : Int32} (hd : decode I.2.1 pc = .ok (.imul, 1))  (k : mT G I d mc ms (pc + 1) lo (.int (x * y) :: st) μ ex nc ns Q) : mT G I d mc ms pc lo (.int y :: .int x :: st) μ ex nc ns Q := by
  intro p e s m args below meth c H locs ls F hP hS hX hl hn hc
  exact lv_imul F.1 F.2.1 hd (k p e s m args below meth c H locs ls F hP hS hX hl hn hc)
theorem T_iand {x y : Int32} (hd : decode I.2.1 pc = .ok (.iand, 1))  (k : mT G I d mc ms (pc + 1) lo (.int (x &&& y) :: st) μ ex nc ns Q) : mT G I d mc ms pc lo (.int y :: .int x :: st) μ ex nc ns Q := by
  intro p e s m args below meth c H locs ls F hP hS hX hl hn hc
  exact lv_iand F.1 F.2.1 hd (k p e s m args below meth c H locs ls F hP hS hX hl hn hc)
theorem T_ior {x y : Int32} (hd : decode I.2.1 pc = .ok (.ior, 1))  (k : mT G I d mc ms (pc + 1) lo (.int (x ||| y) :: st) μ ex nc ns Q) : mT G I d mc ms pc lo (.int y :: .int x :: st) μ ex nc ns Q := by
  intro p e s m args below meth c H locs ls F hP hS hX hl hn hc
  exact lv_ior F.1 F.2.1 hd (k p e s m args below meth c H locs ls F hP hS hX hl hn hc)
theorem T_ishl {x y : Int32} (hd : decode I.2.1 pc = .ok (.ishl, 1))  (k : mT G I d mc ms (pc + 1) lo (.int (x <<< (y &&& 31)) :: st) μ ex nc ns Q) : mT G I d mc ms pc lo (.int y :: .int x :: st) μ ex nc ns Q := by
  intro p e s m args below meth c H locs ls F hP hS hX hl hn hc
  exact lv_ishl F.1 F.2.1 hd (k p e s m args below meth c H locs ls F hP hS hX hl hn hc)
theorem T_ishr {x y : Int32} (hd : decode I.2.1 pc = .ok (.ishr, 1))  (k : mT G I d mc ms (pc + 1) lo (.int (x >>> (y &&& 31)) :: st) μ ex nc ns Q) : mT G I d mc ms pc lo (.int y :: .int x :: st) μ ex nc ns Q := by
  intro p e s m args below meth c H locs ls F hP hS hX hl hn hc
  exact lv_ishr F.1 F.2.1 hd (k p e s m args below meth c H locs ls F hP hS hX hl hn hc)
theorem T_idiv {x y : Int32} (hd : decode I.2.1 pc = .ok (.idiv, 1)) (hne : ¬ y = 0) (k : mT G I d mc ms (pc + 1) lo (.int (x / y) :: st) μ ex nc ns Q) : mT G I d mc ms pc lo (.int y :: .int x :: st) μ ex nc ns Q := by
  intro p e s m args below meth c H locs ls F hP hS hX hl hn hc
  exact lv_idiv F.1 F.2.1 hd hne (k p e s m args below meth c H locs ls F hP hS hX hl hn hc)
theorem T_irem {x y : Int32} (hd : decode I.2.1 pc = .ok (.irem, 1)) (hne : ¬ y = 0) (k : mT G I d mc ms (pc + 1) lo (.int (x - x / y * y) :: st) μ ex nc ns Q) : mT G I d mc ms pc lo (.int y :: .int x :: st) μ ex nc ns Q := by
  intro p e s m args below meth c H locs ls F hP hS hX hl hn hc
  exact lv_irem F.1 F.2.1 hd hne (k p e s m args below meth c H locs ls F hP hS hX hl hn hc)
theorem T_i2b {x : Int32} (hd : decode I.2.1 pc = .ok (.i2b, 1))  (k : mT G I d mc ms (pc + 1) lo (.int x.toInt8.toInt32 :: st) μ ex nc ns Q) : mT G I d mc ms pc lo (.int x :: st) μ ex nc ns Q := by
  intro p e s m args below meth c H locs ls F hP hS hX hl hn hc
  exact lv_i2b F.1 F.2.1 hd rfl (k p e s m args below meth c H locs ls F hP hS hX hl hn hc)
theorem T_i2l {x : Int32} (hd : decode I.2.1 pc = .ok (.i2l, 1))  (k : mT G I d mc ms (pc + 1) lo (.long x.toInt64 :: st) μ ex nc ns Q) : mT G I d mc ms pc lo (.int x :: st) μ ex nc ns Q := by
  intro p e s m args below meth c H locs ls F hP hS hX hl hn hc
  exact lv_i2l F.1 F.2.1 hd rfl (k p e s m args below meth c H locs ls F hP hS hX hl hn hc)
theorem T_lcmp {x y : Int64} (hd : decode I.2.1 pc = .ok (.lcmp, 1)) (k : mT G I d mc ms (pc + 1) lo (.int (lg_cmp x y) :: st) μ ex nc ns Q) : mT G I d mc ms pc lo (.long y :: .long x :: st) μ ex nc ns Q := by
  intro p e s m args below meth c H locs ls F hP hS hX hl hn hc
  exact W.lcmp F.1 F.2.1 hd (k p e s m args below meth c H locs ls F hP hS hX hl hn hc)
theorem T_dup {v : Value} (hd : decode I.2.1 pc = .ok (.dup, 1)) (hv : v.category = 1) (k : mT G I d mc ms (pc + 1) lo (v :: v :: st) μ ex nc ns Q) : mT G I d mc ms pc lo (v :: st) μ ex nc ns Q := by
  intro p e s m args below meth c H locs ls F hP hS hX hl hn hc
  exact lv_dup F.1 F.2.1 hd ((mTr_cat G v).trans hv) (k p e s m args below meth c H locs ls F hP hS hX hl hn hc)
theorem T_dup2 {v w : Value} (hd : decode I.2.1 pc = .ok (.dup2, 1)) (hv : v.category = 1) (hw : w.category = 1) (k : mT G I d mc ms (pc + 1) lo (v :: w :: v :: w :: st) μ ex nc ns Q) : mT G I d mc ms pc lo (v :: w :: st) μ ex nc ns Q := by
  intro p e s m args below meth c H locs ls F hP hS hX hl hn hc
  exact lv_dup2_11 F.1 F.2.1 hd ((mTr_cat G v).trans hv) ((mTr_cat G w).trans hw) (k p e s m args below meth c H locs ls F hP hS hX hl hn hc)
theorem T_pop {v : Value} (hd : decode I.2.1 pc = .ok (.pop, 1)) (hv : v.category = 1) (k : mT G I d mc ms (pc + 1) lo st μ ex nc ns Q) : mT G I d mc ms pc lo (v :: st) μ ex nc ns Q := by
  intro p e s m args below meth c H locs ls F hP hS hX hl hn hc
  exact lv_pop F.1 F.2.1 hd ((mTr_cat G v).trans hv) (k p e s m args below meth c H locs ls F hP hS hX hl hn hc)
theorem T_istore_n {k0 : Fin 4} {x : Int32} (hd : decode I.2.1 pc = .ok (.istore_n k0, 1)) (hi : (k0 : Nat) < lo.length) (k : mT G I d mc ms (pc + 1) (lo.set (k0 : Nat) (some (.int x))) st μ ex nc ns Q) : mT G I d mc ms pc lo (.int x :: st) μ ex nc ns Q := by
  intro p e s m args below meth c H locs ls F hP hS hX hl hn hc
  exact lv_istore_n F.1 F.2.1 hd rfl hl (by rw [← hn]; exact hi) rfl (fun ls2 hl2 => k p e s m args below meth c H locs ls2 F hP hS hX (mPr_set hc hi hl2) (by rw [List.length_set]; exact hn) (mCat_set hc rfl))
theorem T_istore {i : Nat} {x : Int32} (hd : decode I.2.1 pc = .ok (.istore i, 2)) (hi : i < lo.length) (k : mT G I d mc ms (pc + 2) (lo.set i (some (.int x))) st μ ex nc ns Q) : mT G I d mc ms pc lo (.int x :: st) μ ex nc ns Q := by
  intro p e s m args below meth c H locs ls F hP hS hX hl hn hc
  exact lv_istore F.1 F.2.1 hd hl (by rw [← hn]; exact hi) rfl (fun ls2 hl2 => k p e s m args below meth c H locs ls2 F hP hS hX (mPr_set hc hi hl2) (by rw [List.length_set]; exact hn) (mCat_set hc rfl))
theorem T_astore_n {k0 : Fin 4} {x : Nat} (hd : decode I.2.1 pc = .ok (.astore_n k0, 1)) (hi : (k0 : Nat) < lo.length) (k : mT G I d mc ms (pc + 1) (lo.set (k0 : Nat) (some (.ref x))) st μ ex nc ns Q) : mT G I d mc ms pc lo (.ref x :: st) μ ex nc ns Q := by
  intro p e s m args below meth c H locs ls F hP hS hX hl hn hc
  exact lv_astore_n F.1 F.2.1 hd rfl hl (by rw [← hn]; exact hi) rfl (fun ls2 hl2 => k p e s m args below meth c H locs ls2 F hP hS hX (mPr_set hc hi hl2) (by rw [List.length_set]; exact hn) (mCat_set hc rfl))
theorem T_astore {i : Nat} {x : Nat} (hd : decode I.2.1 pc = .ok (.astore i, 2)) (hi : i < lo.length) (k : mT G I d mc ms (pc + 2) (lo.set i (some (.ref x))) st μ ex nc ns Q) : mT G I d mc ms pc lo (.ref x :: st) μ ex nc ns Q := by
  intro p e s m args below meth c H locs ls F hP hS hX hl hn hc
  exact lv_astore F.1 F.2.1 hd hl (by rw [← hn]; exact hi) rfl (fun ls2 hl2 => k p e s m args below meth c H locs ls2 F hP hS hX (mPr_set hc hi hl2) (by rw [List.length_set]; exact hn) (mCat_set hc rfl))
theorem T_iinc {i : Nat} {n : Int} {x v : Int32} (hd : decode I.2.1 pc = .ok (.iinc i n, 3)) (hx : lo[i]? = some (some (.int x))) (hv : x + Int32.ofInt n = v) (k : mT G I d mc ms (pc + 3) (lo.set i (some (.int v))) st μ ex nc ns Q) : mT G I d mc ms pc lo st μ ex nc ns Q := by
  intro p e s m args below meth c H locs ls F hP hS hX hl hn hc
  have hi : i < lo.length := (List.getElem?_eq_some_iff.mp hx).1
  obtain ⟨j, hj⟩ := List.getElem?_of_mem (mPr_mem (G := G) hx)
  exact lv_iinc F.1 F.2.1 hd hl hj hv (by rw [← hn]; exact hi) rfl (fun ls2 hl2 => k p e s m args below meth c H locs ls2 F hP hS hX (mPr_set hc hi hl2) (by rw [List.length_set]; exact hn) (mCat_set hc rfl))
theorem T_goto {off : Int} {tgt : Nat} (hd : decode I.2.1 pc = .ok (.goto off, 3)) (ht : (pc : Int) + off = (tgt : Int)) (k : mT G I d mc ms tgt lo st μ ex nc ns Q) : mT G I d mc ms pc lo st μ ex nc ns Q := by
  intro p e s m args below meth c H locs ls F hP hS hX hl hn hc
  exact lv_goto F.1 F.2.1 hd ht (k p e s m args below meth c H locs ls F hP hS hX hl hn hc)
theorem T_icmp_eq {x y : Int32} {off : Int} {tgt : Nat} (hd : decode I.2.1 pc = .ok (.if_icmp .eq off, 3)) (ht : (pc : Int) + off = (tgt : Int)) (kt : x = y → mT G I d mc ms tgt lo st μ ex nc ns Q) (kf : ¬ x = y → mT G I d mc ms (pc + 3) lo st μ ex nc ns Q) : mT G I d mc ms pc lo (.int y :: .int x :: st) μ ex nc ns Q := by
  intro p e s m args below meth c H locs ls F hP hS hX hl hn hc
  exact lv_icmp_eq F.1 F.2.1 hd ht (fun h => kt h p e s m args below meth c H locs ls F hP hS hX hl hn hc) (fun h => kf h p e s m args below meth c H locs ls F hP hS hX hl hn hc)
theorem T_if_eq {x : Int32} {off : Int} {tgt : Nat} (hd : decode I.2.1 pc = .ok (.ifCond .eq off, 3)) (ht : (pc : Int) + off = (tgt : Int)) (kt : x = 0 → mT G I d mc ms tgt lo st μ ex nc ns Q) (kf : ¬ x = 0 → mT G I d mc ms (pc + 3) lo st μ ex nc ns Q) : mT G I d mc ms pc lo (.int x :: st) μ ex nc ns Q := by
  intro p e s m args below meth c H locs ls F hP hS hX hl hn hc
  exact lv_if_eq F.1 F.2.1 hd ht (fun h => kt h p e s m args below meth c H locs ls F hP hS hX hl hn hc) (fun h => kf h p e s m args below meth c H locs ls F hP hS hX hl hn hc)
theorem T_icmp_ne {x y : Int32} {off : Int} {tgt : Nat} (hd : decode I.2.1 pc = .ok (.if_icmp .ne off, 3)) (ht : (pc : Int) + off = (tgt : Int)) (kt : ¬ x = y → mT G I d mc ms tgt lo st μ ex nc ns Q) (kf : x = y → mT G I d mc ms (pc + 3) lo st μ ex nc ns Q) : mT G I d mc ms pc lo (.int y :: .int x :: st) μ ex nc ns Q := by
  intro p e s m args below meth c H locs ls F hP hS hX hl hn hc
  exact lv_icmp_ne F.1 F.2.1 hd ht (fun h => kt h p e s m args below meth c H locs ls F hP hS hX hl hn hc) (fun h => kf h p e s m args below meth c H locs ls F hP hS hX hl hn hc)
theorem T_if_ne {x : Int32} {off : Int} {tgt : Nat} (hd : decode I.2.1 pc = .ok (.ifCond .ne off, 3)) (ht : (pc : Int) + off = (tgt : Int)) (kt : ¬ x = 0 → mT G I d mc ms tgt lo st μ ex nc ns Q) (kf : x = 0 → mT G I d mc ms (pc + 3) lo st μ ex nc ns Q) : mT G I d mc ms pc lo (.int x :: st) μ ex nc ns Q := by
  intro p e s m args below meth c H locs ls F hP hS hX hl hn hc
  exact lv_if_ne F.1 F.2.1 hd ht (fun h => kt h p e s m args below meth c H locs ls F hP hS hX hl hn hc) (fun h => kf h p e s m args below meth c H locs ls F hP hS hX hl hn hc)
theorem T_icmp_lt {x y : Int32} {off : Int} {tgt : Nat} (hd : decode I.2.1 pc = .ok (.if_icmp .lt off, 3)) (ht : (pc : Int) + off = (tgt : Int)) (kt : x < y → mT G I d mc ms tgt lo st μ ex nc ns Q) (kf : ¬ x < y → mT G I d mc ms (pc + 3) lo st μ ex nc ns Q) : mT G I d mc ms pc lo (.int y :: .int x :: st) μ ex nc ns Q := by
  intro p e s m args below meth c H locs ls F hP hS hX hl hn hc
  exact lv_icmp_lt F.1 F.2.1 hd ht (fun h => kt h p e s m args below meth c H locs ls F hP hS hX hl hn hc) (fun h => kf h p e s m args below meth c H locs ls F hP hS hX hl hn hc)
theorem T_if_lt {x : Int32} {off : Int} {tgt : Nat} (hd : decode I.2.1 pc = .ok (.ifCond .lt off, 3)) (ht : (pc : Int) + off = (tgt : Int)) (kt : x < 0 → mT G I d mc ms tgt lo st μ ex nc ns Q) (kf : ¬ x < 0 → mT G I d mc ms (pc + 3) lo st μ ex nc ns Q) : mT G I d mc ms pc lo (.int x :: st) μ ex nc ns Q := by
  intro p e s m args below meth c H locs ls F hP hS hX hl hn hc
  exact lv_if_lt F.1 F.2.1 hd ht (fun h => kt h p e s m args below meth c H locs ls F hP hS hX hl hn hc) (fun h => kf h p e s m args below meth c H locs ls F hP hS hX hl hn hc)
theorem T_icmp_ge {x y : Int32} {off : Int} {tgt : Nat} (hd : decode I.2.1 pc = .ok (.if_icmp .ge off, 3)) (ht : (pc : Int) + off = (tgt : Int)) (kt : y ≤ x → mT G I d mc ms tgt lo st μ ex nc ns Q) (kf : ¬ y ≤ x → mT G I d mc ms (pc + 3) lo st μ ex nc ns Q) : mT G I d mc ms pc lo (.int y :: .int x :: st) μ ex nc ns Q := by
  intro p e s m args below meth c H locs ls F hP hS hX hl hn hc
  exact lv_icmp_ge F.1 F.2.1 hd ht (fun h => kt h p e s m args below meth c H locs ls F hP hS hX hl hn hc) (fun h => kf h p e s m args below meth c H locs ls F hP hS hX hl hn hc)
theorem T_if_ge {x : Int32} {off : Int} {tgt : Nat} (hd : decode I.2.1 pc = .ok (.ifCond .ge off, 3)) (ht : (pc : Int) + off = (tgt : Int)) (kt : 0 ≤ x → mT G I d mc ms tgt lo st μ ex nc ns Q) (kf : ¬ 0 ≤ x → mT G I d mc ms (pc + 3) lo st μ ex nc ns Q) : mT G I d mc ms pc lo (.int x :: st) μ ex nc ns Q := by
  intro p e s m args below meth c H locs ls F hP hS hX hl hn hc
  exact lv_if_ge F.1 F.2.1 hd ht (fun h => kt h p e s m args below meth c H locs ls F hP hS hX hl hn hc) (fun h => kf h p e s m args below meth c H locs ls F hP hS hX hl hn hc)
theorem T_icmp_gt {x y : Int32} {off : Int} {tgt : Nat} (hd : decode I.2.1 pc = .ok (.if_icmp .gt off, 3)) (ht : (pc : Int) + off = (tgt : Int)) (kt : y < x → mT G I d mc ms tgt lo st μ ex nc ns Q) (kf : ¬ y < x → mT G I d mc ms (pc + 3) lo st μ ex nc ns Q) : mT G I d mc ms pc lo (.int y :: .int x :: st) μ ex nc ns Q := by
  intro p e s m args below meth c H locs ls F hP hS hX hl hn hc
  exact lv_icmp_gt F.1 F.2.1 hd ht (fun h => kt h p e s m args below meth c H locs ls F hP hS hX hl hn hc) (fun h => kf h p e s m args below meth c H locs ls F hP hS hX hl hn hc)
theorem T_if_gt {x : Int32} {off : Int} {tgt : Nat} (hd : decode I.2.1 pc = .ok (.ifCond .gt off, 3)) (ht : (pc : Int) + off = (tgt : Int)) (kt : 0 < x → mT G I d mc ms tgt lo st μ ex nc ns Q) (kf : ¬ 0 < x → mT G I d mc ms (pc + 3) lo st μ ex nc ns Q) : mT G I d mc ms pc lo (.int x :: st) μ ex nc ns Q := by
  intro p e s m args below meth c H locs ls F hP hS hX hl hn hc
  exact lv_if_gt F.1 F.2.1 hd ht (fun h => kt h p e s m args below meth c H locs ls F hP hS hX hl hn hc) (fun h => kf h p e s m args below meth c H locs ls F hP hS hX hl hn hc)
theorem T_icmp_le {x y : Int32} {off : Int} {tgt : Nat} (hd : decode I.2.1 pc = .ok (.if_icmp .le off, 3)) (ht : (pc : Int) + off = (tgt : Int)) (kt : x ≤ y → mT G I d mc ms tgt lo st μ ex nc ns Q) (kf : ¬ x ≤ y → mT G I d mc ms (pc + 3) lo st μ ex nc ns Q) : mT G I d mc ms pc lo (.int y :: .int x :: st) μ ex nc ns Q := by
  intro p e s m args below meth c H locs ls F hP hS hX hl hn hc
  exact lv_icmp_le F.1 F.2.1 hd ht (fun h => kt h p e s m args below meth c H locs ls F hP hS hX hl hn hc) (fun h => kf h p e s m args below meth c H locs ls F hP hS hX hl hn hc)
theorem T_if_le {x : Int32} {off : Int} {tgt : Nat} (hd : decode I.2.1 pc = .ok (.ifCond .le off, 3)) (ht : (pc : Int) + off = (tgt : Int)) (kt : x ≤ 0 → mT G I d mc ms tgt lo st μ ex nc ns Q) (kf : ¬ x ≤ 0 → mT G I d mc ms (pc + 3) lo st μ ex nc ns Q) : mT G I d mc ms pc lo (.int x :: st) μ ex nc ns Q := by
  intro p e s m args below meth c H locs ls F hP hS hX hl hn hc
  exact lv_if_le F.1 F.2.1 hd ht (fun h => kt h p e s m args below meth c H locs ls F hP hS hX hl hn hc) (fun h => kf h p e s m args below meth c H locs ls F hP hS hX hl hn hc)
theorem T_tableIn {dflt l0 hi : Int} {offs : Array Int} {len : Nat} {x : Int32} {off : Int} {tgt : Nat} (hd : decode I.2.1 pc = .ok (.tableswitch dflt l0 hi offs, len)) (h1 : ¬ x.toInt < l0) (h2 : ¬ hi < x.toInt) (ho : offs[(x.toInt - l0).toNat]? = some off) (ht : (pc : Int) + off = (tgt : Int)) (k : mT G I d mc ms tgt lo st μ ex nc ns Q) : mT G I d mc ms pc lo (.int x :: st) μ ex nc ns Q := by
  intro p e s m args below meth c H locs ls F hP hS hX hl hn hc
  exact lv_tableIn F.1 F.2.1 hd h1 h2 ho ht (k p e s m args below meth c H locs ls F hP hS hX hl hn hc)
theorem T_tableOut {dflt l0 hi : Int} {offs : Array Int} {len : Nat} {x : Int32} {tgt : Nat} (hd : decode I.2.1 pc = .ok (.tableswitch dflt l0 hi offs, len)) (h : x.toInt < l0 ∨ hi < x.toInt) (ht : (pc : Int) + dflt = (tgt : Int)) (k : mT G I d mc ms tgt lo st μ ex nc ns Q) : mT G I d mc ms pc lo (.int x :: st) μ ex nc ns Q := by
  intro p e s m args below meth c H locs ls F hP hS hX hl hn hc
  exact lv_tableOut F.1 F.2.1 hd h ht (k p e s m args below meth c H locs ls F hP hS hX hl hn hc)
theorem T_lookup {dflt : Int} {ps : Array (Int × Int)} {len : Nat} {x : Int32} {off : Int} {tgt : Nat} (hd : decode I.2.1 pc = .ok (.lookupswitch dflt ps, len)) (hp : (ps.toList.zip (ps.toList.drop 1)).all (fun (a, next) => a.1 < next.1) = true) (ho : Op.lookupswitch.offset ps.toList dflt x.toInt = off) (ht : (pc : Int) + off = (tgt : Int)) (k : mT G I d mc ms tgt lo st μ ex nc ns Q) : mT G I d mc ms pc lo (.int x :: st) μ ex nc ns Q := by
  intro p e s m args below meth c H locs ls F hP hS hX hl hn hc
  exact lv_lookup F.1 F.2.1 hd hp ho ht (k p e s m args below meth c H locs ls F hP hS hX hl hn hc)
theorem mFix.own {p : Program} {s : State} {m : MethodId} {args : Array Value} {meth : Method} {c : Code} (F : mFix G I p s m args meth c) (ho : mOwn.getD I.2.2.2.2.1 "" = I.1.cls) : s.vm.findClass (mOwn.getD I.2.2.2.2.1 "") = some m.cls := by rw [ho]; exact F.2.2.2.2.2.1
theorem mFix.ts {p : Program} {s : State} {m : MethodId} {args : Array Value} {meth : Method} {c : Code} (F : mFix G I p s m args meth c) : ∀ w ∈ mGood, w.before args s = true := F.2.2.2.2.2.2.2.1
theorem mFix.wd {p : Program} {s : State} {m : MethodId} {args : Array Value} {meth : Method} {c : Code} (F : mFix G I p s m args meth c) : mWd G s := F.2.2.2.2.2.2.2.2
theorem mFix.nest {p : Program} {s : State} {m : MethodId} {args : Array Value} {meth : Method} {c : Code} (F : mFix G I p s m args meth c) {w : Cond} (h : w ∈ tables_1) (hw : mIsNest w = true) (ht : w.onTables = true) : w.before args s = true := va_Nw.use ht (F.wd.2.1 w h hw)
theorem mLk {α : Type} {l : List (Nat × α)} {i : Nat} {x : α} (h : l.lookup i = some x) : (i, x) ∈ l := by
  induction l with
  | nil => simp at h
  | cons a t ih =>
    obtain ⟨j, y⟩ := a
    by_cases hj : i = j
    · subst hj
      simp at h
      subst h
      exact List.mem_cons_self
    · have hb : (i == j) = false := by simp [hj]
      rw [List.lookup_cons, hb] at h
      exact List.mem_cons_of_mem _ (ih h)
theorem T_ldc {i : Nat} {v : Int32} (hd : decode I.2.1 pc = .ok (.ldc i, 2)) (ho : mOwn.getD I.2.2.2.2.1 "" = I.1.cls) (hf : (mCo I.2.2.2.2.1).lookup i = some v) (k : mT G I d mc ms (pc + 2) lo (.int v :: st) μ ex nc ns Q) : mT G I d mc ms pc lo st μ ex nc ns Q := by
  intro p e s m args below meth c H locs ls F hP hS hX hl hn hc
  exact lv_ldc F.1 F.2.1 (F.own ho) (F.ts _ (mCo_ok _ _ (mLk hf))) hd (k p e s m args below meth c H locs ls F hP hS hX hl hn hc)
theorem T_get {a i ci k0 : Nat} {nest : Bool} {fs : List Value} {v : Value} (hd : decode I.2.1 pc = .ok (.getfield i, 3)) (ho : mOwn.getD I.2.2.2.2.1 "" = I.1.cls) (hf : (mFl I.2.2.2.2.1).lookup i = some (ci, k0, nest)) (ha : μ[a]? = some (.inr (ci, fs))) (hv : fs[k0]? = some v) (k : mT G I d mc ms (pc + 3) lo (v :: st) μ ex nc ns Q) : mT G I d mc ms pc lo (.ref (a + 3) :: st) μ ex nc ns Q := by
  intro p e s m args below meth c H locs ls F hP hS hX hl hn hc
  obtain ⟨r, hr, hk, hw⟩ := mFl_ok _ _ (mLk hf)
  obtain ⟨hin, -⟩ := mCl_ok _ _ hr
  have he : (mWs G μ)[a]? = some (mAd G (a + 3), .inr (ci, fs.map (mTr G))) := by rw [mAd_c]; exact mWs_at ha
  have hv' : (fs.map (mTr G))[k0]? = some (mTr G v) := by rw [List.getElem?_map, hv]; rfl
  cases nest with
  | false => exact va_get F.1 F.2.1 F.ts hin (F.own ho) F.wd.1 hP a he hr k0 hk (F.ts _ (mG_t rfl hw)) (fun _ h9 => h9) hv' hd (k p e s m args below meth c H locs ls F hP hS hX hl hn hc)
  | true => exact va_getN F.1 F.2.1 F.ts hin (F.own ho) F.wd.1 hP a he hr k0 hk (F.nest hw rfl rfl) (fun _ h9 => h9) hv' hd (k p e s m args below meth c H locs ls F hP hS hX hl hn hc)
theorem mSetP {a : Nat} {e : va_E} {H : Heap} (h : va_P (gD G) mCl ((mWs G μ).set a (mAd G (a + 3), mTrE G e)) H) : va_P (gD G) mCl (mWs G (μ.set a e)) H := by rw [mWs_set, ← mAd_c]; exact h
theorem mHS {A : Nat → Prop} {H0 H : Heap} {locs : List Loc} (hS : va_S A H0 H locs) : va_S A H H locs := ⟨Nat.le_refl _, fun _ _ _ => rfl, hS.2.2⟩
theorem mHS2 {A : Nat → Prop} {H0 H H1 : Heap} {locs locs1 : List Loc} (hS : va_S A H0 H locs) (h : va_S A H H1 locs1) : va_S A H0 H1 locs1 := ⟨Nat.le_trans hS.1 h.1, fun q h1 h2 => (h.2.1 q (Nat.lt_of_lt_of_le h1 hS.1) h2).trans (hS.2.1 q h1 h2), h.2.2⟩
theorem mWsz {p : Program} {l : Launch} {e : Env} {R : Room} {s : State} {m : MethodId} {args : Array Value} {below : List Frame} {meth : Method} {c : Code} {H : Heap} {locs : List Loc} {cells slots : Nat} {Qs : State → Prop} {g : JFrame} (k : H.size ≤ s.heap.size + cells → W p l e R s m args below meth c H locs cells slots Qs g) : W p l e R s m args below meth c H locs cells slots Qs g := fun T hT X => k (hT ▸ X.heapSize) T hT X
theorem mSz {s : State} {H H1 : Heap} {locs1 : List Loc} {n1 : Nat} (hX : ex = true → H.size = gB G + μ.length ∧ H.size = s.heap.size + nc) (h1 : va_S (mA G) H H1 locs1) (hz : H1.size ≤ s.heap.size + nc) (hn1 : n1 = μ.length) : ex = true → H1.size = gB G + n1 ∧ H1.size = s.heap.size + nc := fun h => by
  have a := hX h
  have b := h1.1
  subst hn1
  omega
/-- a field of a number -/
theorem T_put {a i ci k0 : Nat} {nest : Bool} {fs : List Value} {x : Int32} {r : vw_C} (hd : decode I.2.1 pc = .ok (.putfield i, 3)) (ho : mOwn.getD I.2.2.2.2.1 "" = I.1.cls) (hf : (mFl I.2.2.2.2.1).lookup i = some (ci, k0, nest)) (hr : mCl[ci]? = some r) (hfi : (r.2.1 k0).2.2.2 = false) (hty : (r.2.1 k0).2.2.1 = "I") (ha : μ[a]? = some (.inr (ci, fs))) (hv : k0 < fs.length) (k : mT G I d mc ms (pc + 3) lo st (μ.set a (.inr (ci, fs.set k0 (.int x)))) ex nc ns Q) : mT G I d mc ms pc lo (.int x :: .ref (a + 3) :: st) μ ex nc ns Q := by
  intro p e s m args below meth c H locs ls F hP hS hX hl hn hc
  obtain ⟨r2, hr2, hk, hw⟩ := mFl_ok _ _ (mLk hf)
  cases hr.symm.trans hr2
  obtain ⟨hin, ty0, hty0, hnm⟩ := mCl_ok _ _ hr
  have he : (mWs G μ)[a]? = some (mAd G (a + 3), .inr (ci, fs.map (mTr G))) := by rw [mAd_c]; exact mWs_at ha
  have hl2 : k0 < (fs.map (mTr G)).length := by rw [List.length_map]; exact hv
  have hd9 : parseFieldDescriptor (r.2.1 k0).2.2.1 = some (ty0 k0) := hty0 k0 hk
  have key : ∀ (H1 : Heap) (locs1 : List Loc), va_P (gD G) mCl ((mWs G μ).set a (mAd G (a + 3), .inr (ci, (fs.map (mTr G)).set k0 (.int x)))) H1 → va_D (mA G) ((mWs G μ).set a (mAd G (a + 3), .inr (ci, (fs.map (mTr G)).set k0 (.int x)))) → va_S (mA G) H H1 locs1 → W p (gL G) e (mRoom d mc ms) s m args below meth c H1 locs1 nc ns (MQ below (mQc G Q) args s mc ms (mA G)) (F0 m (pc + 3) ls (st.map (mTr G))) := fun H1 locs1 hP1 _ hS1 => mWsz fun hz => k p e s m args below meth c H1 locs1 ls F (mSetP (by rw [show mTrE G (.inr (ci, fs.set k0 (.int x))) = .inr (ci, (fs.map (mTr G)).set k0 (.int x)) by simp [mTrE, List.map_set, mTr]]; exact hP1)) (mHS2 hS hS1) (mSz hX hS1 hz (List.length_set ..)) hl hn hc
  cases nest with
  | false => exact va_put F.1 F.2.1 F.ts hin ty0 hty0 hnm (F.own ho) F.wd.1 hP (mWs_D G μ) (mHS hS) a he hr k0 hk (F.ts _ (mG_t rfl hw)) (fun _ h9 => h9) hfi (ty := .int) (by rw [hty]; decide +kernel) rfl rfl hl2 hd key
  | true => exact va_putN F.1 F.2.1 F.ts hin ty0 hty0 hnm (F.own ho) F.wd.1 hP (mWs_D G μ) (mHS hS) a he hr k0 hk (F.nest hw rfl rfl) (fun _ h9 => h9) hfi (ty := .int) (by rw [hty]; decide +kernel) rfl rfl hl2 hd key
/-- a final field of a reference, in its constructor -/
theorem T_putF {a i ci k0 q : Nat} {fs : List Value} {r : vw_C} {ty : FieldType} (hd : decode I.2.1 pc = .ok (.putfield i, 3)) (ho : mOwn.getD I.2.2.2.2.1 "" = I.1.cls) (hf : (mFl I.2.2.2.2.1).lookup i = some (ci, k0, false)) (hr : mCl[ci]? = some r) (hfi : (r.2.1 k0).2.2.2 = true) (hnm0 : I.1.name = "<init>") (hdc : (r.2.1 k0).1 = I.1.cls) (hty : parseFieldDescriptor (r.2.1 k0).2.2.1 = some ty) (hrt : (∃ n, ty = .object n) ∨ ∃ t, ty = .array t) (ha : μ[a]? = some (.inr (ci, fs))) (hv : k0 < fs.length) (k : mT G I d mc ms (pc + 3) lo st (μ.set a (.inr (ci, fs.set k0 (.ref q)))) ex nc ns Q) : mT G I d mc ms pc lo (.ref q :: .ref (a + 3) :: st) μ ex nc ns Q := by
  intro p e s m args below meth c H locs ls F hP hS hX hl hn hc
  obtain ⟨r2, hr2, hk, hw⟩ := mFl_ok _ _ (mLk hf)
  cases hr.symm.trans hr2
  obtain ⟨hin, ty0, hty0, hnm⟩ := mCl_ok _ _ hr
  have he : (mWs G μ)[a]? = some (mAd G (a + 3), .inr (ci, fs.map (mTr G))) := by rw [mAd_c]; exact mWs_at ha
  have hl2 : k0 < (fs.map (mTr G)).length := by rw [List.length_map]; exact hv
  have hd9 : parseFieldDescriptor (r.2.1 k0).2.2.1 = some (ty0 k0) := hty0 k0 hk
  have key : ∀ (H1 : Heap) (locs1 : List Loc), va_P (gD G) mCl ((mWs G μ).set a (mAd G (a + 3), .inr (ci, (fs.map (mTr G)).set k0 (.ref (mAd G q))))) H1 → va_D (mA G) ((mWs G μ).set a (mAd G (a + 3), .inr (ci, (fs.map (mTr G)).set k0 (.ref (mAd G q))))) → va_S (mA G) H H1 locs1 → W p (gL G) e (mRoom d mc ms) s m args below meth c H1 locs1 nc ns (MQ below (mQc G Q) args s mc ms (mA G)) (F0 m (pc + 3) ls (st.map (mTr G))) := fun H1 locs1 hP1 _ hS1 => mWsz fun hz => k p e s m args below meth c H1 locs1 ls F (mSetP (by rw [show mTrE G (.inr (ci, fs.set k0 (.ref q))) = .inr (ci, (fs.map (mTr G)).set k0 (.ref (mAd G q))) by simp [mTrE, List.map_set, mTr]]; exact hP1)) (mHS2 hS hS1) (mSz hX hS1 hz (List.length_set ..)) hl hn hc
  have hn9 : narrow ty (.ref (mAd G q)) = .ref (mAd G q) := by rcases hrt with ⟨n, rfl⟩ | ⟨t, rfl⟩ <;> rfl
  have hf9 : fits ty (.ref (mAd G q)) = true := by rcases hrt with ⟨n, rfl⟩ | ⟨t, rfl⟩ <;> rfl
  exact va_putF F.1 F.2.1 F.ts hin ty0 hty0 hnm (F.own ho) F.wd.1 hP (mWs_D G μ) (mHS hS) a he hr k0 hk (F.ts _ (mG_t rfl hw)) (fun _ h9 => h9) hfi (F.2.2.2.2.2.2.1.trans hnm0) (hdc.trans ho.symm) hty hn9 hf9 hl2 hd key
theorem T_getstatic {i q : Nat} {nest : Bool} (hd : decode I.2.1 pc = .ok (.getstatic i, 3)) (ho : mOwn.getD I.2.2.2.2.1 "" = I.1.cls) (hf : (mGs I.2.2.2.2.1).lookup i = some (q, nest)) (k : mT G I d mc ms (pc + 3) lo (.ref q :: st) μ ex nc ns Q) : mT G I d mc ms pc lo st μ ex nc ns Q := by
  intro p e s m args below meth c H locs ls F hP hS hX hl hn hc
  obtain ⟨hq, hw⟩ := mGs_ok _ _ (mLk hf)
  have hq : q < 2 := hq
  have hZ : va_Z RX4 (mGsN q) "[I" (.ref (gX G q)) (mA G) s s.heap := by
    rcases (show q = 0 ∨ q = 1 by omega) with h | h
    · subst h; exact F.wd.2.2.2.2.1.1
    · subst h; exact F.wd.2.2.2.2.2.1.1
  have hk := k p e s m args below meth c H locs ls F hP hS hX hl hn hc
  have hq3 : mAd G q = gX G q := by unfold mAd; rw [if_pos (by omega)]
  have hk2 : W p (gL G) e (mRoom d mc ms) s m args below meth c H locs nc ns (MQ below (mQc G Q) args s mc ms (mA G)) (F0 m (pc + 3) ls (.ref (gX G q) :: st.map (mTr G))) := by rw [← hq3]; exact hk
  cases nest with
  | false => exact va_gets F.1 F.2.1 hZ hS (F.own ho) (F.ts _ (mG_t rfl hw)) (fun _ h9 => h9) hd hk2
  | true => exact va_getsN F.1 F.2.1 hZ hS (F.own ho) (F.nest hw rfl rfl) (fun _ h9 => h9) hd hk2
theorem T_iaload {a n : Nat} {f : Nat → Int32} {i : Int32} (hd : decode I.2.1 pc = .ok (.iaload, 1)) (ha : μ[a]? = some (.inl (0, n, .inl f))) (hi : vp_in i n) (k : mT G I d mc ms (pc + 1) lo (.int (f i.toNatClampNeg) :: st) μ ex nc ns Q) : mT G I d mc ms pc lo (.int i :: .ref (a + 3) :: st) μ ex nc ns Q := by
  intro p e s m args below meth c H locs ls F hP hS hX hl hn hc
  have he : (mWs G μ)[a]? = some (mAd G (a + 3), .inl (gC G 0, n, .inl f)) := by rw [mAd_c]; exact mWs_at ha
  exact va_iald F.1 F.2.1 F.wd.1 hP a 0 he rfl hi hd (k p e s m args below meth c H locs ls F hP hS hX hl hn hc)
theorem T_baload {a n : Nat} {f : Nat → Int32} {i : Int32} (hd : decode I.2.1 pc = .ok (.baload, 1)) (ha : μ[a]? = some (.inl (1, n, .inl f))) (hi : vp_in i n) (k : mT G I d mc ms (pc + 1) lo (.int (f i.toNatClampNeg) :: st) μ ex nc ns Q) : mT G I d mc ms pc lo (.int i :: .ref (a + 3) :: st) μ ex nc ns Q := by
  intro p e s m args below meth c H locs ls F hP hS hX hl hn hc
  have he : (mWs G μ)[a]? = some (mAd G (a + 3), .inl (gC G 1, n, .inl f)) := by rw [mAd_c]; exact mWs_at ha
  exact va_bald F.1 F.2.1 F.wd.1 hP a 1 he rfl hi hd (k p e s m args below meth c H locs ls F hP hS hX hl hn hc)
theorem T_zaload {a n : Nat} {f : Nat → Int32} {i : Int32} (hd : decode I.2.1 pc = .ok (.baload, 1)) (ha : μ[a]? = some (.inl (2, n, .inl f))) (hi : vp_in i n) (k : mT G I d mc ms (pc + 1) lo (.int (f i.toNatClampNeg) :: st) μ ex nc ns Q) : mT G I d mc ms pc lo (.int i :: .ref (a + 3) :: st) μ ex nc ns Q := by
  intro p e s m args below meth c H locs ls F hP hS hX hl hn hc
  have he : (mWs G μ)[a]? = some (mAd G (a + 3), .inl (gC G 2, n, .inl f)) := by rw [mAd_c]; exact mWs_at ha
  exact va_zald F.1 F.2.1 F.wd.1 hP a 2 he rfl hi hd (k p e s m args below meth c H locs ls F hP hS hX hl hn hc)
theorem T_laload {a n : Nat} {f : Nat → Int64} {i : Int32} (hd : decode I.2.1 pc = .ok (.laload, 1)) (ha : μ[a]? = some (.inl (3, n, .inr (.inl f)))) (hi : vp_in i n) (k : mT G I d mc ms (pc + 1) lo (.long (f i.toNatClampNeg) :: st) μ ex nc ns Q) : mT G I d mc ms pc lo (.int i :: .ref (a + 3) :: st) μ ex nc ns Q := by
  intro p e s m args below meth c H locs ls F hP hS hX hl hn hc
  have he : (mWs G μ)[a]? = some (mAd G (a + 3), .inl (gC G 3, n, .inr (.inl f))) := by rw [mAd_c]; exact mWs_at ha
  exact va_lald F.1 F.2.1 F.wd.1 hP a 3 he rfl hi hd (k p e s m args below meth c H locs ls F hP hS hX hl hn hc)
theorem T_aaload {a n q : Nat} {f : Nat → Option Nat} {i : Int32} (hd : decode I.2.1 pc = .ok (.aaload, 1)) (ha : μ[a]? = some (.inl (4, n, .inr (.inr (.inr (.inr f)))))) (hi : vp_in i n) (hq : f i.toNatClampNeg = some q) (k : mT G I d mc ms (pc + 1) lo (.ref q :: st) μ ex nc ns Q) : mT G I d mc ms pc lo (.int i :: .ref (a + 3) :: st) μ ex nc ns Q := by
  intro p e s m args below meth c H locs ls F hP hS hX hl hn hc
  have he : (mWs G μ)[a]? = some (mAd G (a + 3), .inl (gC G 4, n, .inr (.inr (.inr (.inr (fun j => (f j).map (mAd G))))))) := by rw [mAd_c]; exact mWs_at ha
  refine va_aldq F.1 F.2.1 F.wd.1 hP a 4 he rfl hi hd ?_
  rw [show va_rf ((f i.toNatClampNeg).map (mAd G)) = mTr G (.ref q) by rw [hq]; rfl]
  exact (k p e s m args below meth c H locs ls F hP hS hX hl hn hc)
theorem T_iastore {a n : Nat} {f : Nat → Int32} {i : Int32} {x : Int32} (hd : decode I.2.1 pc = .ok (.iastore, 1)) (ha : μ[a]? = some (.inl (0, n, .inl f))) (hi : vp_in i n) (k : mT G I d mc ms (pc + 1) lo st (μ.set a (.inl (0, n, .inl (upd f i.toNatClampNeg x)))) ex nc ns Q) : mT G I d mc ms pc lo (.int x :: .int i :: .ref (a + 3) :: st) μ ex nc ns Q := by
  intro p e s m args below meth c H locs ls F hP hS hX hl hn hc
  have he : (mWs G μ)[a]? = some (mAd G (a + 3), .inl (gC G 0, n, .inl f)) := by rw [mAd_c]; exact mWs_at ha
  exact va_iast F.1 F.2.1 F.wd.1 hP (mWs_D G μ) (mHS hS) a 0 he rfl hi hd (fun H1 locs1 hP1 _ hS1 => mWsz fun hz => k p e s m args below meth c H1 locs1 ls F (mSetP hP1) (mHS2 hS hS1) (mSz hX hS1 hz (List.length_set ..)) hl hn hc)
theorem T_bastore {a n : Nat} {f : Nat → Int32} {i : Int32} {x : Int32} (hd : decode I.2.1 pc = .ok (.bastore, 1)) (ha : μ[a]? = some (.inl (1, n, .inl f))) (hi : vp_in i n) (k : mT G I d mc ms (pc + 1) lo st (μ.set a (.inl (1, n, .inl (upd f i.toNatClampNeg (vp_nar .byte x))))) ex nc ns Q) : mT G I d mc ms pc lo (.int x :: .int i :: .ref (a + 3) :: st) μ ex nc ns Q := by
  intro p e s m args below meth c H locs ls F hP hS hX hl hn hc
  have he : (mWs G μ)[a]? = some (mAd G (a + 3), .inl (gC G 1, n, .inl f)) := by rw [mAd_c]; exact mWs_at ha
  exact va_bast F.1 F.2.1 F.wd.1 hP (mWs_D G μ) (mHS hS) a 1 he rfl hi hd (fun H1 locs1 hP1 _ hS1 => mWsz fun hz => k p e s m args below meth c H1 locs1 ls F (mSetP hP1) (mHS2 hS hS1) (mSz hX hS1 hz (List.length_set ..)) hl hn hc)
theorem T_zastore {a n : Nat} {f : Nat → Int32} {i : Int32} {x : Int32} (hd : decode I.2.1 pc = .ok (.bastore, 1)) (ha : μ[a]? = some (.inl (2, n, .inl f))) (hi : vp_in i n) (k : mT G I d mc ms (pc + 1) lo st (μ.set a (.inl (2, n, .inl (upd f i.toNatClampNeg (vp_nar .boolean x))))) ex nc ns Q) : mT G I d mc ms pc lo (.int x :: .int i :: .ref (a + 3) :: st) μ ex nc ns Q := by
  intro p e s m args below meth c H locs ls F hP hS hX hl hn hc
  have he : (mWs G μ)[a]? = some (mAd G (a + 3), .inl (gC G 2, n, .inl f)) := by rw [mAd_c]; exact mWs_at ha
  exact va_zast F.1 F.2.1 F.wd.1 hP (mWs_D G μ) (mHS hS) a 2 he rfl hi hd (fun H1 locs1 hP1 _ hS1 => mWsz fun hz => k p e s m args below meth c H1 locs1 ls F (mSetP hP1) (mHS2 hS hS1) (mSz hX hS1 hz (List.length_set ..)) hl hn hc)
theorem T_lastore {a n : Nat} {f : Nat → Int64} {i : Int32} {x : Int64} (hd : decode I.2.1 pc = .ok (.lastore, 1)) (ha : μ[a]? = some (.inl (3, n, .inr (.inl f)))) (hi : vp_in i n) (k : mT G I d mc ms (pc + 1) lo st (μ.set a (.inl (3, n, .inr (.inl (vp_updL f i.toNatClampNeg x))))) ex nc ns Q) : mT G I d mc ms pc lo (.long x :: .int i :: .ref (a + 3) :: st) μ ex nc ns Q := by
  intro p e s m args below meth c H locs ls F hP hS hX hl hn hc
  have he : (mWs G μ)[a]? = some (mAd G (a + 3), .inl (gC G 3, n, .inr (.inl f))) := by rw [mAd_c]; exact mWs_at ha
  exact va_last F.1 F.2.1 F.wd.1 hP (mWs_D G μ) (mHS hS) a 3 he rfl hi hd (fun H1 locs1 hP1 _ hS1 => mWsz fun hz => k p e s m args below meth c H1 locs1 ls F (mSetP hP1) (mHS2 hS hS1) (mSz hX hS1 hz (List.length_set ..)) hl hn hc)
theorem T_aastore {a b n : Nat} {vs : List Value} {f : Nat → Option Nat} {i : Int32} (hd : decode I.2.1 pc = .ok (.aastore, 1)) (ha : μ[a]? = some (.inl (4, n, .inr (.inr (.inr (.inr f)))))) (hb : μ[b]? = some (.inr (3, vs))) (hi : vp_in i n) (k : mT G I d mc ms (pc + 1) lo st (μ.set a (.inl (4, n, .inr (.inr (.inr (.inr (va_up f i.toNatClampNeg (some (b + 3))))))))) ex nc ns Q) : mT G I d mc ms pc lo (.ref (b + 3) :: .int i :: .ref (a + 3) :: st) μ ex nc ns Q := by
  intro p e s m args below meth c H locs ls F hP hS hX hl hn hc
  have he : (mWs G μ)[a]? = some (mAd G (a + 3), .inl (gC G 4, n, .inr (.inr (.inr (.inr (fun j => (f j).map (mAd G))))))) := by rw [mAd_c]; exact mWs_at ha
  have he2 : (mWs G μ)[b]? = some (mAd G (b + 3), .inr (3, vs.map (mTr G))) := by rw [mAd_c]; exact mWs_at hb
  refine va_astq F.1 F.2.1 F.wd.1 hP (mWs_D G μ) (mHS hS) a 4 b 3 (r := (RX3, TX3, 9)) he rfl he2 rfl hi hd (fun H1 locs1 hP1 _ hS1 => mWsz fun hz => k p e s m args below meth c H1 locs1 ls F (mSetP ?_) (mHS2 hS hS1) (mSz hX hS1 hz (List.length_set ..)) hl hn hc)
  have e9 : (fun j => (va_up f i.toNatClampNeg (some (b + 3)) j).map (mAd G)) = va_up (fun j => (f j).map (mAd G)) i.toNatClampNeg (some (mAd G (b + 3))) := by
    funext j
    simp only [va_up]
    split <;> rfl
  rw [show mTrE G (.inl (4, n, .inr (.inr (.inr (.inr (va_up f i.toNatClampNeg (some (b + 3)))))))) = .inl (gC G 4, n, .inr (.inr (.inr (.inr (fun j => (va_up f i.toNatClampNeg (some (b + 3)) j).map (mAd G)))))) from rfl, e9]
  exact hP1
/-- what the three rows from outside hold -/
def mXr (G : mG) (a : Nat) : Nat × (Nat → Int32) := if a = 0 then (8, fun j => mLeast.getD j 0) else if a = 1 then (8, fun j => mMost.getD j 0) else (gN G, gS G)
theorem T_ialoadX {a : Nat} {i : Int32} (hd : decode I.2.1 pc = .ok (.iaload, 1)) (ha : a < 3) (hi : vp_in i (mXr G a).1) (k : mT G I d mc ms (pc + 1) lo (.int ((mXr G a).2 i.toNatClampNeg) :: st) μ ex nc ns Q) : mT G I d mc ms pc lo (.int i :: .ref a :: st) μ ex nc ns Q := by
  intro p e s m args below meth c H locs ls F hP hS hX hl hn hc
  have hk := (k p e s m args below meth c H locs ls F hP hS hX hl hn hc)
  have hq3 : mAd G a = gX G a := by unfold mAd; rw [if_pos ha]
  show W p (gL G) e (mRoom d mc ms) s m args below meth c H locs nc ns (MQ below (mQc G Q) args s mc ms (mA G)) (F0 m pc ls (.int i :: .ref (mAd G a) :: st.map (mTr G)))
  rw [hq3]
  rcases (show a = 0 ∨ a = 1 ∨ a = 2 by omega) with h | h | h
  · subst h; exact va_ti F.1 F.2.1 F.wd.2.2.2.2.1.2 hS hi rfl hd hk
  · subst h; exact va_ti F.1 F.2.1 F.wd.2.2.2.2.2.1.2 hS hi rfl hd hk
  · subst h
    have hx := F.wd.2.2.2.2.2.2
    exact va_sld F.1 F.2.1 hx.1 (Nat.lt_of_lt_of_le hx.2.1 F.wd.2.2.1) (Nat.not_le.mpr hx.2.1) hS hi hd hk
theorem T_alenX (hd : decode I.2.1 pc = .ok (.arraylength, 1)) (k : mT G I d mc ms (pc + 1) lo (.int (Int32.ofNat (gN G)) :: st) μ ex nc ns Q) : mT G I d mc ms pc lo (.ref 2 :: st) μ ex nc ns Q := by
  intro p e s m args below meth c H locs ls F hP hS hX hl hn hc
  have hx := F.wd.2.2.2.2.2.2
  exact va_slen F.1 F.2.1 hx.1 (Nat.lt_of_lt_of_le hx.2.1 F.wd.2.2.1) (Nat.not_le.mpr hx.2.1) hS hd (k p e s m args below meth c H locs ls F hP hS hX hl hn hc)
theorem mQc_of {args : Array Value} {s t : State} {H : Heap} {locs : List Loc} {r : Option Value} (hq : Q r μ ex) (hP : va_P (gD G) mCl (mWs G μ) H) (hS : va_S (mA G) s.heap H locs) (hX : ex = true → H.size = gB G + μ.length ∧ H.size = s.heap.size + nc) (ht : t.heap = H) : mQc G Q args s (.returned (r.map (mTr G))) t := ⟨⟨r, μ, ex, hq, rfl, by rw [ht]; exact hP, fun h => by rw [ht]; exact (hX h).1⟩, hS.F ht⟩
theorem T_iret {v : Int32} (hd : decode I.2.1 pc = .ok (.ireturn, 1)) (hr : I.2.2.2.1 = some .int) (hc1 : nc ≤ mc) (hs1 : ns ≤ ms) (hq : Q (some (.int v)) μ ex) : mT G I d mc ms pc lo [.int v] μ ex nc ns Q := by
  intro p e s m args below meth c H locs ls F hP hS hX hl hn hc
  refine W.widen hc1 hs1 ?_
  exact W.iret (v := v) F.1 F.2.1 (F.2.2.1.trans hr) (fun t ht _ => mQc_of (r := some (.int v)) hq hP hS hX ht) hS.2.2 hd F.2.2.2.1
theorem T_zret {v : Int32} (hd : decode I.2.1 pc = .ok (.ireturn, 1)) (hr : I.2.2.2.1 = some .boolean) (hv : v = 0 ∨ v = 1) (hc1 : nc ≤ mc) (hs1 : ns ≤ ms) (hq : Q (some (.int v)) μ ex) : mT G I d mc ms pc lo [.int v] μ ex nc ns Q := by
  intro p e s m args below meth c H locs ls F hP hS hX hl hn hc
  refine W.widen hc1 hs1 ?_
  exact W.zret (v := v) (ty := .boolean) F.1 F.2.1 (F.2.2.1.trans hr) (by rcases hv with rfl | rfl <;> rfl) (fun t ht _ => mQc_of (r := some (.int v)) hq hP hS hX ht) hS.2.2 hd F.2.2.2.1
theorem T_vret (hd : decode I.2.1 pc = .ok (.return_, 1)) (hr : I.2.2.2.1 = none) (hc1 : nc ≤ mc) (hs1 : ns ≤ ms) (hq : Q none μ ex) : mT G I d mc ms pc lo [] μ ex nc ns Q := by
  intro p e s m args below meth c H locs ls F hP hS hX hl hn hc
  refine W.widen hc1 hs1 ?_
  exact W.vret F.1 F.2.1 (F.2.2.1.trans hr) (fun t ht _ => mQc_of (r := none) hq hP hS hX ht) hS.2.2 hd F.2.2.2.1
end RU
end
section
/-! ===== the small machine: the library, new cells, calls ===== -/
section CA
variable {G : mG} {I : mI} {d mc ms pc : Nat} {lo : List (Option Value)} {st : List Value} {μ : List va_E} {ex : Bool} {nc ns : Nat} {Q : mQ}
theorem mCatSum (G : mG) (st : List Value) : ((st.map (mTr G)).map fun v => v.category).sum = (st.map fun v => v.category).sum := by
  rw [List.map_map]
  congr 1
  exact List.map_congr_left (fun v _ => mTr_cat G v)
theorem T_objInit {i a : Nat} (hd : decode I.2.1 pc = .ok (.invokespecial i, 3)) (ho : mOwn.getD I.2.2.2.2.1 "" = I.1.cls) (hf : (mLi I.2.2.2.2.1).lookup i = some 0) (hst : (st.map fun v => v.category).sum ≤ 8) (k : mT G I d mc ms (pc + 3) lo st μ ex nc ns Q) : mT G I d mc ms pc lo (.ref a :: st) μ ex nc ns Q := by
  intro p e s m args below meth c H locs ls F hP hS hX hl hn hc
  exact W.objInit F.1 F.2.1 (F.own ho) (F.ts _ (mLi_ok _ _ (mLk hf))) (F.ts _ mW_oi) (F.ts _ mW_oc) rfl (by rw [F.2.2.2.2.1]; exact hl.1) rfl hd (by simp [mRoom]) (by rw [mCatSum]; show 2 * 0 + _ + 12 ≤ 60 * (d + 1); omega) (k p e s m args below meth c H locs ls F hP hS hX hl hn hc)
theorem T_min {i : Nat} {x y : Int32} (hd : decode I.2.1 pc = .ok (.invokestatic i, 3)) (ho : mOwn.getD I.2.2.2.2.1 "" = I.1.cls) (hf : (mLi I.2.2.2.2.1).lookup i = some 1) (hst : (st.map fun v => v.category).sum ≤ 8) (hc1 : nc ≤ mc) (hs1 : ns ≤ ms) (k : mT G I d mc ms (pc + 3) lo (.int (if y < x then y else x) :: st) μ ex nc ns Q) : mT G I d mc ms pc lo (.int y :: .int x :: st) μ ex nc ns Q := by
  intro p e s m args below meth c H locs ls F hP hS hX hl hn hc
  exact va_mmin F.1 F.2.1 (by rw [F.2.2.2.2.1]; exact hl.1.symm) (F.own ho) (F.ts _ (mLi_ok _ _ (mLk hf))) (F.ts _ mW_mins) (F.ts _ mW_math) (F.ts _ mW_minc) (by simp [mRoom]) (by rw [mCatSum]; show _ + 13 ≤ 60 * (d + 1); omega) hc1 hs1 hd (k p e s m args below meth c H locs ls F hP hS hX hl hn hc)
theorem T_max {i : Nat} {x y : Int32} (hd : decode I.2.1 pc = .ok (.invokestatic i, 3)) (ho : mOwn.getD I.2.2.2.2.1 "" = I.1.cls) (hf : (mLi I.2.2.2.2.1).lookup i = some 2) (hst : (st.map fun v => v.category).sum ≤ 8) (hc1 : nc ≤ mc) (hs1 : ns ≤ ms) (k : mT G I d mc ms (pc + 3) lo (.int (if x < y then y else x) :: st) μ ex nc ns Q) : mT G I d mc ms pc lo (.int y :: .int x :: st) μ ex nc ns Q := by
  intro p e s m args below meth c H locs ls F hP hS hX hl hn hc
  exact va_mmax F.1 F.2.1 (by rw [F.2.2.2.2.1]; exact hl.1.symm) (F.own ho) (F.ts _ (mLi_ok _ _ (mLk hf))) (F.ts _ mW_maxs) (F.ts _ mW_math) (F.ts _ mW_maxc) (by simp [mRoom]) (by rw [mCatSum]; show _ + 13 ≤ 60 * (d + 1); omega) hc1 hs1 hd (k p e s m args below meth c H locs ls F hP hS hX hl hn hc)
theorem T_copy {i a b n0 n1 : Nat} {f g : Nat → Int32} {sp dp n : Int32} (hd : decode I.2.1 pc = .ok (.invokestatic i, 3)) (ho : mOwn.getD I.2.2.2.2.1 "" = I.1.cls) (hf : (mLi I.2.2.2.2.1).lookup i = some 3) (hst : (st.map fun v => v.category).sum ≤ 8) (ha : μ[a]? = some (.inl (0, n0, .inl f))) (hb : μ[b]? = some (.inl (0, n1, .inl g))) (h1 : ¬ sp < 0) (h2 : ¬ dp < 0) (h3 : ¬ n < 0) (h4 : sp.toNatClampNeg + n.toNatClampNeg ≤ n0) (h5 : dp.toNatClampNeg + n.toNatClampNeg ≤ n1) (k : mT G I d mc ms (pc + 3) lo st (μ.set b (.inl (0, n1, .inl (va_cpy f g sp.toNatClampNeg dp.toNatClampNeg n.toNatClampNeg)))) ex nc ns Q) : mT G I d mc ms pc lo (.int n :: .int dp :: .ref (b + 3) :: .int sp :: .ref (a + 3) :: st) μ ex nc ns Q := by
  intro p e s m args below meth c H locs ls F hP hS hX hl hn hc
  have he : (mWs G μ)[a]? = some (mAd G (a + 3), .inl (gC G 0, n0, .inl f)) := by rw [mAd_c]; exact mWs_at ha
  have he2 : (mWs G μ)[b]? = some (mAd G (b + 3), .inl (gC G 0, n1, .inl g)) := by rw [mAd_c]; exact mWs_at hb
  have h9 : nativeFrameWords "java/lang/System" "arraycopy" 5 + 11 ≤ 40 := by decide +kernel
  have h8 : ((st.map (mTr G)).map fun v => v.category).sum + (nativeFrameWords "java/lang/System" "arraycopy" 5 + 11) ≤ (mRoom d mc ms).locals := by
    rw [mCatSum]
    show _ + _ ≤ 60 * (d + 1)
    omega
  have h7 : 1 ≤ (mRoom d mc ms).frames := Nat.le_add_left 1 d
  exact va_copyi F.1 F.2.1 (by rw [F.2.2.2.2.1]; exact hl.1.symm) (F.own ho) (F.ts _ (mLi_ok _ _ (mLk hf))) (F.ts _ mW_acn) (F.ts _ mW_acs) (F.ts _ mW_sys) F.wd.1 hP (mWs_D G μ) (mHS hS) a b 0 0 he he2 rfl rfl rfl h1 h2 h3 h4 h5 (fun _ _ => rfl) h7 h8 hd (fun H1 locs1 hP1 _ hS1 => mWsz fun hz => k p e s m args below meth c H1 locs1 ls F (mSetP hP1) (mHS2 hS hS1) (mSz hX hS1 hz (List.length_set ..)) hl hn hc)
/-- a new cell lies at the end -/
theorem mNew {s : State} {H H1 : Heap} {q : Nat} {e : va_E} {n0 : Nat} (hX : H.size = gB G + μ.length ∧ H.size = s.heap.size + n0) (hP1 : va_P (gD G) mCl (mWs G μ ++ [(q, e)]) H1) (hD1 : va_D (mA G) (mWs G μ ++ [(q, e)])) (hz : H1.size ≤ s.heap.size + (n0 + 1)) : q = mAd G (μ.length + 3) ∧ H1.size = gB G + (μ.length + 1) ∧ H1.size = s.heap.size + (n0 + 1) := by
  have hq : (mWs G μ ++ [(q, e)])[μ.length]? = some (q, e) := by rw [List.getElem?_append_right (by rw [mWs_len]; exact Nat.le_refl _), mWs_len]; simp
  have h1 : q < H1.size := (hP1 _ _ hq).lt
  have h2 : gB G ≤ q := hD1.2 _ _ hq
  rw [mAd_c]
  have h3 : ¬ q < gB G + μ.length := by
    intro h
    have hk : q - gB G < μ.length := by omega
    have h4 : (mWs G μ ++ [(q, e)])[q - gB G]? = some (gB G + (q - gB G), mTrE G μ[q - gB G]) := by
      rw [List.getElem?_append_left (by rw [mWs_len]; exact hk)]
      exact mWs_at (List.getElem?_eq_getElem hk)
    have h5 := hD1.1 _ _ _ _ h4 hq (show gB G + (q - gB G) = q by omega)
    omega
  omega
theorem mNewP {H1 : Heap} {q : Nat} {e : va_E} (hq : q = mAd G (μ.length + 3)) (hP1 : va_P (gD G) mCl (mWs G μ ++ [(q, mTrE G e)]) H1) : va_P (gD G) mCl (mWs G (μ ++ [e])) H1 := by
  rw [mWs_push, ← mAd_c, ← hq]
  exact hP1
theorem T_new_int {n : Int32} {N : Nat} (hd : decode I.2.1 pc = .ok (.newarray .int, 2)) (hx : ex = true) (hn0 : ¬ n < 0) (hN : n.toNatClampNeg = N) (hb : N ≤ 100000) (hc1 : nc + 1 ≤ mc) (hs1 : ns + N ≤ ms) (k : mT G I d mc ms (pc + 2) lo (.ref (μ.length + 3) :: st) (μ ++ [.inl (0, N, .inl (fun _ => 0))]) ex (nc + 1) (ns + N) Q) : mT G I d mc ms pc lo (.int n :: st) μ ex nc ns Q := by
  intro p e s m args below meth c H locs ls F hP hS hX hl hn hc
  refine va_newa (atype := .int) F.1 F.2.1 (F.ts _ mW_aint) (ty := .int) rfl F.wd.1 hP (mWs_D G μ) (mHS hS) (fun q h => Nat.le_trans (by rw [(hX hx).1]; exact Nat.le_add_right _ _) h) (a0 := (N, .inl (fun _ => 0))) (fun _ => rfl) hn0 hN (by show N * 4 ≤ 536870912; omega) hc1 hs1 hd (fun q cA H1 hK1 hP1 hD1 hS1 => mWsz fun hz => ?_)
  have hcA : cA = gC G 0 := by
    have h1 := (hK1.2 5 (cA, .int) rfl).2
    have h2 := (F.wd.1.2 0 (gC G 0, .int) rfl).2
    exact Option.some.inj (h1.symm.trans h2)
  subst hcA
  obtain ⟨hq, hz1, hz2⟩ := mNew (n0 := nc) (hX hx) hP1 hD1 hz
  have hk := k p e s m args below meth c H1 locs ls F (mNewP (e := .inl (0, N, .inl (fun _ => 0))) hq hP1) (mHS2 hS hS1) (fun _ => by rw [List.length_append]; exact ⟨hz1, hz2⟩) hl hn hc
  rw [hq]
  exact hk
theorem T_new_byte {n : Int32} {N : Nat} (hd : decode I.2.1 pc = .ok (.newarray .byte, 2)) (hx : ex = true) (hn0 : ¬ n < 0) (hN : n.toNatClampNeg = N) (hb : N ≤ 100000) (hc1 : nc + 1 ≤ mc) (hs1 : ns + N ≤ ms) (k : mT G I d mc ms (pc + 2) lo (.ref (μ.length + 3) :: st) (μ ++ [.inl (1, N, .inl (fun _ => 0))]) ex (nc + 1) (ns + N) Q) : mT G I d mc ms pc lo (.int n :: st) μ ex nc ns Q := by
  intro p e s m args below meth c H locs ls F hP hS hX hl hn hc
  refine va_newa (atype := .byte) F.1 F.2.1 (F.ts _ mW_abyte) (ty := .byte) rfl F.wd.1 hP (mWs_D G μ) (mHS hS) (fun q h => Nat.le_trans (by rw [(hX hx).1]; exact Nat.le_add_right _ _) h) (a0 := (N, .inl (fun _ => 0))) (fun _ => rfl) hn0 hN (by show N * 1 ≤ 536870912; omega) hc1 hs1 hd (fun q cA H1 hK1 hP1 hD1 hS1 => mWsz fun hz => ?_)
  have hcA : cA = gC G 1 := by
    have h1 := (hK1.2 5 (cA, .byte) rfl).2
    have h2 := (F.wd.1.2 1 (gC G 1, .byte) rfl).2
    exact Option.some.inj (h1.symm.trans h2)
  subst hcA
  obtain ⟨hq, hz1, hz2⟩ := mNew (n0 := nc) (hX hx) hP1 hD1 hz
  have hk := k p e s m args below meth c H1 locs ls F (mNewP (e := .inl (1, N, .inl (fun _ => 0))) hq hP1) (mHS2 hS hS1) (fun _ => by rw [List.length_append]; exact ⟨hz1, hz2⟩) hl hn hc
  rw [hq]
  exact hk
theorem T_new_boolean {n : Int32} {N : Nat} (hd : decode I.2.1 pc = .ok (.newarray .boolean, 2)) (hx : ex = true) (hn0 : ¬ n < 0) (hN : n.toNatClampNeg = N) (hb : N ≤ 100000) (hc1 : nc + 1 ≤ mc) (hs1 : ns + N ≤ ms) (k : mT G I d mc ms (pc + 2) lo (.ref (μ.length + 3) :: st) (μ ++ [.inl (2, N, .inl (fun _ => 0))]) ex (nc + 1) (ns + N) Q) : mT G I d mc ms pc lo (.int n :: st) μ ex nc ns Q := by
  intro p e s m args below meth c H locs ls F hP hS hX hl hn hc
  refine va_newa (atype := .boolean) F.1 F.2.1 (F.ts _ mW_aboolean) (ty := .boolean) rfl F.wd.1 hP (mWs_D G μ) (mHS hS) (fun q h => Nat.le_trans (by rw [(hX hx).1]; exact Nat.le_add_right _ _) h) (a0 := (N, .inl (fun _ => 0))) (fun _ => rfl) hn0 hN (by show N * 1 ≤ 536870912; omega) hc1 hs1 hd (fun q cA H1 hK1 hP1 hD1 hS1 => mWsz fun hz => ?_)
  have hcA : cA = gC G 2 := by
    have h1 := (hK1.2 5 (cA, .boolean) rfl).2
    have h2 := (F.wd.1.2 2 (gC G 2, .boolean) rfl).2
    exact Option.some.inj (h1.symm.trans h2)
  subst hcA
  obtain ⟨hq, hz1, hz2⟩ := mNew (n0 := nc) (hX hx) hP1 hD1 hz
  have hk := k p e s m args below meth c H1 locs ls F (mNewP (e := .inl (2, N, .inl (fun _ => 0))) hq hP1) (mHS2 hS hS1) (fun _ => by rw [List.length_append]; exact ⟨hz1, hz2⟩) hl hn hc
  rw [hq]
  exact hk
theorem T_new_long {n : Int32} {N : Nat} (hd : decode I.2.1 pc = .ok (.newarray .long, 2)) (hx : ex = true) (hn0 : ¬ n < 0) (hN : n.toNatClampNeg = N) (hb : N ≤ 100000) (hc1 : nc + 1 ≤ mc) (hs1 : ns + N ≤ ms) (k : mT G I d mc ms (pc + 2) lo (.ref (μ.length + 3) :: st) (μ ++ [.inl (3, N, .inr (.inl (fun _ => 0)))]) ex (nc + 1) (ns + N) Q) : mT G I d mc ms pc lo (.int n :: st) μ ex nc ns Q := by
  intro p e s m args below meth c H locs ls F hP hS hX hl hn hc
  refine va_newa (atype := .long) F.1 F.2.1 (F.ts _ mW_along) (ty := .long) rfl F.wd.1 hP (mWs_D G μ) (mHS hS) (fun q h => Nat.le_trans (by rw [(hX hx).1]; exact Nat.le_add_right _ _) h) (a0 := (N, .inr (.inl (fun _ => 0)))) (fun _ => rfl) hn0 hN (by show N * 8 ≤ 536870912; omega) hc1 hs1 hd (fun q cA H1 hK1 hP1 hD1 hS1 => mWsz fun hz => ?_)
  have hcA : cA = gC G 3 := by
    have h1 := (hK1.2 5 (cA, .long) rfl).2
    have h2 := (F.wd.1.2 3 (gC G 3, .long) rfl).2
    exact Option.some.inj (h1.symm.trans h2)
  subst hcA
  obtain ⟨hq, hz1, hz2⟩ := mNew (n0 := nc) (hX hx) hP1 hD1 hz
  have hk := k p e s m args below meth c H1 locs ls F (mNewP (e := .inl (3, N, .inr (.inl (fun _ => 0)))) hq hP1) (mHS2 hS hS1) (fun _ => by rw [List.length_append]; exact ⟨hz1, hz2⟩) hl hn hc
  rw [hq]
  exact hk
theorem T_new_told {i : Nat} {n : Int32} {N : Nat} (hd : decode I.2.1 pc = .ok (.anewarray i, 3)) (ho : mOwn.getD I.2.2.2.2.1 "" = I.1.cls) (hf : (mNw I.2.2.2.2.1).lookup i = some 3) (hx : ex = true) (hn0 : ¬ n < 0) (hN : n.toNatClampNeg = N) (hb : N ≤ 100000) (hc1 : nc + 1 ≤ mc) (hs1 : ns + N ≤ ms) (k : mT G I d mc ms (pc + 3) lo (.ref (μ.length + 3) :: st) (μ ++ [.inl (4, N, .inr (.inr (.inr (.inr (fun _ => none)))))]) ex (nc + 1) (ns + N) Q) : mT G I d mc ms pc lo (.int n :: st) μ ex nc ns Q := by
  intro p e s m args below meth c H locs ls F hP hS hX hl hn hc
  obtain ⟨r, hr, hw, -⟩ := mNw_ok _ _ (mLk hf)
  have hr : r = (RX3, TX3, 9) := (Option.some.inj hr).symm
  subst hr
  refine va_newq F.1 F.2.1 (F.own ho) (F.ts _ hw) F.wd.2.2.2.1.1 F.wd.1 hP (mWs_D G μ) (mHS hS) (fun q h => Nat.le_trans (by rw [(hX hx).1]; exact Nat.le_add_right _ _) h) hn0 hN (by omega) hc1 hs1 hd (fun q cA H1 hK1 hP1 hD1 hS1 => mWsz fun hz => ?_)
  have hcA : cA = gC G 4 := by
    obtain ⟨_, _, -, -, -, h1⟩ := (hK1.2 5 (cA, .object RX3) rfl).2
    obtain ⟨_, _, -, -, -, h2⟩ := (F.wd.1.2 4 (gC G 4, .object RX3) rfl).2
    exact Option.some.inj (h1.symm.trans h2)
  subst hcA
  obtain ⟨hq, hz1, hz2⟩ := mNew (n0 := nc) (hX hx) hP1 hD1 hz
  have hk := k p e s m args below meth c H1 locs ls F (mNewP (e := .inl (4, N, .inr (.inr (.inr (.inr (fun _ => none)))))) hq hP1) (mHS2 hS hS1) (fun _ => by rw [List.length_append]; exact ⟨hz1, hz2⟩) hl hn hc
  rw [hq]
  exact hk
theorem T_new {i ci : Nat} {r : vw_C} {ty : Nat → FieldType} {fs : List Value} (hd : decode I.2.1 pc = .ok (.new i, 3)) (ho : mOwn.getD I.2.2.2.2.1 "" = I.1.cls) (hf : (mNw I.2.2.2.2.1).lookup i = some ci) (hr : mCl[ci]? = some r) (hty : ∀ k, k < r.2.2 → parseFieldDescriptor (r.2.1 k).2.2.1 = some (ty k)) (hfs : ∀ j, j < r.2.2 → defaultValue (ty j) = vp_V fs j) (hfn : fs.map (mTr G) = fs) (hx : ex = true) (hc1 : nc + 1 ≤ mc) (hs1 : ns + r.2.2 ≤ ms) (k : mT G I d mc ms (pc + 3) lo (.ref (μ.length + 3) :: st) (μ ++ [.inr (ci, fs)]) ex (nc + 1) (ns + r.2.2) Q) : mT G I d mc ms pc lo st μ ex nc ns Q := by
  intro p e s m args below meth c H locs ls F hP hS hX hl hn hc
  obtain ⟨r2, hr2, hw, hw2, hw3⟩ := mNw_ok _ _ (mLk hf)
  cases hr.symm.trans hr2
  obtain ⟨hin, -⟩ := mCl_ok _ _ hr
  refine va_new (C := r.1) (T := r.2.1) (N := r.2.2) F.1 F.2.1 F.ts hin ty hty (F.own ho) (F.ts _ hw) (F.ts _ hw2) (F.ts _ hw3) F.wd.1 hP (mWs_D G μ) (mHS hS) (fun q h => Nat.le_trans (by rw [(hX hx).1]; exact Nat.le_add_right _ _) h) hr hfs hc1 hs1 hd (fun q H1 hP1 hD1 hS1 => mWsz fun hz => ?_)
  obtain ⟨hq, hz1, hz2⟩ := mNew (n0 := nc) (hX hx) hP1 hD1 hz
  have hk := k p e s m args below meth c H1 locs ls F (mNewP (e := .inr (ci, fs)) hq (by show va_P _ _ (_ ++ [(q, .inr (ci, fs.map (mTr G)))]) _; rw [hfn]; exact hP1)) (mHS2 hS hS1) (fun _ => by rw [List.length_append]; exact ⟨hz1, hz2⟩) hl hn hc
  rw [hq]
  exact hk
theorem mStr_moved {s U : State} {H : Heap} {locs : List Loc} (h : mStr G s) (hW : s.WarmedH U.vm) (hU : U.heap = H) (hS : va_S (mA G) s.heap H locs) : mStr G U := by
  obtain ⟨h1, h2, h3, h4, h5, h6, h7⟩ := h
  subst hU
  exact ⟨fun i hi => vk_R.warm hW (h1 i hi), vk_R.warm hW h2, vk_S.moved hW.alike (h3.kept hS.2.1), va_Z.moved hW.alike (h4.kept hS.2.1), vx_Zq.moved hW.alike (h5.kept hS.2.1), vx_Zq.moved hW.alike (h6.kept hS.2.1), h7.imp (fun h => va_Z.moved hW.alike (h.kept hS.2.1)) (fun h => va_Z.moved hW.alike (h.kept hS.2.1))⟩
theorem mWd_moved {s U : State} {H : Heap} {locs : List Loc} (h : mWd G s) (hW : s.WarmedH U.vm) (hU : U.heap = H) (hS : va_S (mA G) s.heap H locs) : mWd G U := by
  obtain ⟨h1, h2, h3, ⟨h4, h4s⟩, ⟨h5, h6⟩, ⟨h7, h8⟩, h9, h10, h11⟩ := h
  have h4t := mStr_moved h4s hW hU hS
  subst hU
  refine ⟨va_K.moved hW.alike h1, fun w hw hn => ?_, Nat.le_trans h3 hS.1, ⟨va_AO.moved hW.alike h4, h4t⟩, ⟨va_Z.moved hW.alike (h5.kept hS.2.1), va_T.moved hW.alike (h6.kept hS.2.1)⟩, ⟨va_Z.moved hW.alike (h7.kept hS.2.1), va_T.moved hW.alike (h8.kept hS.2.1)⟩, va_X.moved hW.alike (h9.kept (hS.2.1 _ (Nat.lt_of_lt_of_le h10 h3) (Nat.not_le.mpr h10))), h10, h11⟩
  have h0 := h2 w hw hn
  cases w <;> first | exact va_Nw.warmF hW h0 | exact va_Nw.warmM hW h0 | exact absurd hn (by simp [mIsNest])
def mPc (G : mG) (as : List Value) (μ : List va_E) (ex : Bool) : Array Value → State → Prop := fun v U => v = (as.map (mTr G)).toArray ∧ mWd G U ∧ va_P (gD G) mCl (mWs G μ) U.heap ∧ (ex = true → U.heap.size = gB G + μ.length)
def mWsJ (J : mI) : List Cond := .code J.1 J.2.1 J.2.2.1 J.2.2.2.1 :: mGood
theorem mPc_blind {as : List Value} : FrameBlind (mPc G as μ ex) := by
  intro a U g mk h
  obtain ⟨h1, h2, h3, h4⟩ := h
  exact ⟨h1, mWd_moved (U := U.calling g mk a) (H := U.heap) h2 (State.WarmedH.refl U) rfl va_S.rf, h3, h4⟩
theorem mArgs {vs : List Value} (hc : ∀ v ∈ vs, v.category = 1) : ∀ (k i : Nat) (v : Value), vs[i]? = some v → (k + i, v) ∈ lv_args k vs := by
  induction vs with
  | nil => intro k i v h; simp at h
  | cons w t ih =>
    intro k i v h
    have hw : w.category = 1 := hc w List.mem_cons_self
    have he : lv_args k (w :: t) = (k, w) :: lv_args (k + 1) t := by simp [lv_args, hw]
    rw [he]
    cases i with
    | zero =>
      cases h
      exact List.mem_cons_self
    | succ i =>
      have := ih (fun v hv => hc v (List.mem_cons_of_mem _ hv)) (k + 1) i v h
      rw [show k + (i + 1) = k + 1 + i by omega]
      exact List.mem_cons_of_mem _ this
theorem mSlc {vs : List Value} (hc : ∀ v ∈ vs, v.category = 1) : (lg_sl vs).length = vs.length := by
  induction vs with
  | nil => rfl
  | cons w t ih =>
    have hw : w.category = 1 := hc w List.mem_cons_self
    have := ih (fun v hv => hc v (List.mem_cons_of_mem _ hv))
    simp only [lg_sl, List.flatMap_cons, hw] at this ⊢
    simp [this]
theorem mLo_get {J : mI} {as : List Value} {i : Nat} {v : Value} (h : (mLo J as)[i]? = some (some v)) : as[i]? = some v := by
  unfold mLo at h
  by_cases hi : i < (as.map some).length
  · rw [List.getElem?_append_left hi, List.getElem?_map] at h
    obtain ⟨w, hw, hv⟩ := Option.map_eq_some_iff.mp h
    cases hv
    exact hw
  · rw [List.getElem?_append_right (by omega)] at h
    have := List.mem_of_getElem? h
    rw [List.mem_replicate] at this
    exact absurd this.2 (by simp)
theorem mGood_in {J : mI} (hJ : mJOk J) : GoodIn mGood (mWsJ J) := by
  intro w hw
  have h1 : w ∈ mGood := by
    rcases List.mem_cons.mp hw with rfl | h
    · exact hJ.1
    · exact h
  exact ⟨h1, good_of_word (List.mem_filter.mp h1).2⟩
/-- a walk from the method's first place is a contract -/
theorem mMet {J : mI} {as : List Value} (hJ : plainName J.1.cls = true) (hlen : as.length ≤ J.2.2.1) (hcat : ∀ v ∈ as, v.category = 1) (h : mC G J d mc ms as μ ex Q) : Met (gL G) J.1 (mWsJ J) (mRoom d mc ms) (mPc G as μ ex) (mQc G Q) mc ms (mA G) := by
  refine Met.ofW (cc := J.2.1) (maxL := J.2.2.1) (ret := J.2.2.2.1) hJ rfl ?_
  intro p e s m args below meth c s₁ B hml hv
  obtain ⟨rfl, hwd, hP, hX⟩ := hv
  have hts := atoms_spec (ws := mWsJ J) B.pre
  have hcv : ∀ v ∈ as.map (mTr G), v.category = 1 := by
    intro v hv
    obtain ⟨w, hw, rfl⟩ := List.mem_map.mp hv
    rw [mTr_cat]; exact hcat w hw
  have hsl := mSlc hcv
  have hl := lv_entry (as.map (mTr G)) (n := J.2.2.1) (by rw [hsl, List.length_map]; exact hlen)
  rw [lg_entry_eq]
  refine h p e s m _ below meth c s.heap [] _ ⟨B.exec, B.bytes, B.returns, B.notSynchronized, hml, findClass_of_methodNamed B.named, (name_of_methodNamed B.named B.method).1, fun w hw => hts w (List.mem_cons_of_mem _ hw), hwd⟩ hP va_S.rf (fun h => ⟨hX h, rfl⟩) ⟨hl.1, hl.2.1, fun q hq => ?_⟩ ?_ ?_
  · obtain ⟨v, h1, h2⟩ := mPr_inv hq
    have h3 := mLo_get h1
    have h4 : (as.map (mTr G))[q.1]? = some (mTr G v) := by rw [List.getElem?_map, h3]; rfl
    have h5 := mArgs hcv 0 q.1 _ h4
    rw [Nat.zero_add] at h5
    rw [h2]
    exact hl.2.2 _ h5
  · simp [mLo]; omega
  · intro v hv
    obtain ⟨i, hi⟩ := List.getElem?_of_mem hv
    exact hcat v (List.mem_of_getElem? (mLo_get hi))
/-- behind a call -/
theorem mGo {p : Program} {e : Env} {s : State} {m : MethodId} {args : Array Value} {below : List Frame} {meth : Method} {c : Code} {H : Heap} {locs : List Loc} {ls : Array Slot} {st0 rest : List Value} {mc' ms' : Nat} {a : Array Value} {Q' : mQ} {Qs : State → Prop} {R : Room} {l : Launch}
    (hr : va_Run p l e R s m args below meth c H locs nc ns mc' ms' (F0 m pc ls st0) rest (mQc G Q' a) (mA G)) (hS : va_S (mA G) s.heap H locs)
    (kk : ∀ (r : Option Value) (μ' : List va_E) (ex' : Bool) (H1 : Heap) (locs1 : List Loc), Q' r μ' ex' → va_P (gD G) mCl (mWs G μ') H1 → va_S (mA G) s.heap H1 locs1 → (ex' = true → H1.size = gB G + μ'.length) → W p l e R s m args below meth c H1 locs1 (nc + mc') (ns + ms') Qs (F0 m (pc + 3) ls ((r.map (mTr G)).toList ++ rest))) :
    W p l e R s m args below meth c H locs nc ns Qs (F0 m pc ls st0) := by
  intro T hT X
  obtain ⟨v, st₀, t, T', L, h0, X', hL, e1, e2, ⟨⟨r, μ', ex', hq, hv, hp, hx⟩, hz, hk⟩, stp⟩ := hr T hT X
  cases hv
  rw [h0] at hz hk
  obtain ⟨t2, a1, b1⟩ := kk r μ' ex' t.heap (locs ++ L) hq hp ⟨Nat.le_trans hS.1 hz, fun q h1 h2 => (hk q (Nat.lt_of_lt_of_le h1 hS.1) h2).trans (hS.2.1 q h1 h2), fun q hq => (List.mem_append.mp hq).elim (hS.2.2 q) (hL q)⟩ hx T' e1 X'
  exact ⟨t2, stp t2 a1, b1⟩
theorem mSig {J : mI} (hJ : mJOk J) : ∀ sig, parseMethodDescriptor J.1.desc = some sig → J.2.2.2.2.2 = sig.parameters.length := by
  intro sig h
  have h2 := hJ.2.2.1.2.2
  rw [h] at h2
  exact (Option.some.inj h2).symm
theorem mRest (G : mG) (pc : Nat) (ls : Array Slot) (m : MethodId) (s0 st : List Value) (h : (st.map fun v => v.category).sum ≤ 8) : 2 * (F0 m pc ls s0).monitorRoom + ((st.map (mTr G)).map fun v => v.category).sum ≤ 8 := by
  rw [mCatSum]
  show 2 * 0 + _ ≤ 8
  omega
theorem T_callV {a ci kd : Nat} {i d1 mc1 ms1 : Nat} {as : List Value} {J : mI} {Q1 : mQ} {fs : List Value} {r0 : vw_C} (hd : decode I.2.1 pc = .ok (.invokevirtual i, 3)) (ho : mOwn.getD I.2.2.2.2.1 "" = I.1.cls) (hf : (mCa I.2.2.2.2.1).lookup i = some (kd, J)) (hkd : kd = 1 ∨ kd = 4) (ha : μ[a]? = some (.inr (ci, fs))) (hci : mCl[ci]? = some r0) (hcl : r0.1 = J.1.cls) (hnp : as.length = J.2.2.2.2.2) (hml : as.length + 1 ≤ J.2.2.1 ∧ J.2.2.1 ≤ 40) (hcat : ∀ v ∈ as, v.category = 1) (hst : (st.map fun v => v.category).sum ≤ 8) (hdd : d1 < d) (hmc : nc + mc1 ≤ mc) (hms : ns + ms1 ≤ ms) (hC : mC G J d1 mc1 ms1 (.ref (a + 3) :: as) μ ex Q1) (hex : ∀ r μ1 ex1, Q1 r μ1 ex1 → ex1 = true → ex = true ∧ μ1.length = μ.length + mc1) (k : ∀ r μ1 ex1, Q1 r μ1 ex1 → mT G I d mc ms (pc + 3) lo (r.toList ++ st) μ1 ex1 (nc + mc1) (ns + ms1) Q) : mT G I d mc ms pc lo (as.reverse ++ .ref (a + 3) :: st) μ ex nc ns Q := by
  intro p e s m args below meth c H locs ls F hP hS hX hl hn hc
  obtain ⟨hJ, hw⟩ := mCa_ok _ _ (mLk hf)
  have hgi := mGood_in hJ
  have hrm : (mRoom d1 mc1 ms1).frames + 1 ≤ (mRoom d mc ms).frames ∧ 8 + (J.2.2.1 + 11) + (mRoom d1 mc1 ms1).locals ≤ (mRoom d mc ms).locals := ⟨by show d1 + 1 + 1 ≤ d + 1; omega, by show 8 + (J.2.2.1 + 11) + 60 * (d1 + 1) ≤ 60 * (d + 1); omega⟩
  have hcb : (Cond.code J.1 J.2.1 J.2.2.1 J.2.2.2.1).before args s = true := F.ts _ hJ.1
  have hib : (Cond.initialized J.1.cls).before args s = true := F.ts _ hJ.2.1
  have hM := mMet hJ.2.2.2.1 (by exact hml.1) (fun v hv => (List.mem_cons.mp hv).elim (fun h => by rw [h]; rfl) (hcat v)) hC
  have he : (mWs G μ)[a]? = some (mAd G (a + 3), .inr (ci, fs.map (mTr G))) := by rw [mAd_c]; exact mWs_at ha
  have hrecv := va_recv F.wd.1 hP hci he
  rw [hcl] at hrecv
  have hpre : PreV s H J.1.cls (mAd G (a + 3)) (mPc G (.ref (a + 3) :: as) μ ex) (as.map (mTr G)) := ⟨mPc_blind, hrecv, fun U hU hW => ⟨rfl, mWd_moved F.wd hW hU hS, by rw [hU]; exact hP, fun h => by rw [hU]; exact (hX h).1⟩⟩
  have hrun : va_Run p (gL G) e (mRoom d mc ms) s m args below meth c H locs nc ns mc1 ms1 (F0 m pc ls ((as.reverse ++ .ref (a + 3) :: st).map (mTr G))) (st.map (mTr G)) (mQc G Q1 (Value.ref (mAd G (a + 3)) :: as.map (mTr G)).toArray) (mA G) := by
    rcases hkd with rfl | rfl
    · exact va_runV ⟨F.1, F.2.1, F.2.2.2.2.1, F.own ho, F.ts⟩ hM (n := J.2.2.2.2.2) ⟨⟨rfl, rfl, hrm.1, hrm.2, pay_in F.ts hgi, List.mem_cons_self, hcb, hib, ⟨hJ.2.2.1.1, hJ.2.2.1.2.1⟩, mSig hJ, F.ts _ hw.1⟩, F.ts _ hw.2.1, F.ts _ hw.2.2⟩ hpre rfl (by rw [List.length_map]; exact hnp) hl.1 (by simp [mTr]) (mRest G _ _ _ _ _ hst) hd ⟨hmc, hms⟩
    · exact va_runVN ⟨F.1, F.2.1, F.2.2.2.2.1, F.own ho, F.ts⟩ hM (n := J.2.2.2.2.2) ⟨⟨⟨rfl, rfl, hrm.1, hrm.2, pay_in F.ts hgi, List.mem_cons_self⟩, hcb, hib, ⟨hJ.2.2.1.1, hJ.2.2.1.2.1⟩, mSig hJ, F.nest hw.1 rfl rfl⟩, F.ts _ hw.2.1, F.ts _ hw.2.2⟩ hpre rfl (by rw [List.length_map]; exact hnp) hl.1 (by simp [mTr]) (mRest G _ _ _ _ _ hst) hd ⟨hmc, hms⟩
  refine mGo (Q' := Q1) hrun hS (fun r μ1 ex1 H1 locs1 hq hP1 hS1 hx1 => ?_)
  have hk := k r μ1 ex1 hq p e s m args below meth c H1 locs1 ls F hP1 hS1 (fun h => by
    have a1 := hx1 h
    obtain ⟨a2, a3⟩ := hex r μ1 ex1 hq h
    have a4 := hX a2
    exact ⟨a1, by omega⟩) hl hn hc
  have e9 : (r.toList ++ st).map (mTr G) = (r.map (mTr G)).toList ++ st.map (mTr G) := by cases r <;> rfl
  rw [e9] at hk
  exact hk
theorem T_callS {i d1 mc1 ms1 : Nat} {as : List Value} {J : mI} {Q1 : mQ} (hd : decode I.2.1 pc = .ok (.invokestatic i, 3)) (ho : mOwn.getD I.2.2.2.2.1 "" = I.1.cls) (hf : (mCa I.2.2.2.2.1).lookup i = some (0, J)) (hnp : as.length = J.2.2.2.2.2) (hml : as.length ≤ J.2.2.1 ∧ J.2.2.1 ≤ 40) (hcat : ∀ v ∈ as, v.category = 1) (hst : (st.map fun v => v.category).sum ≤ 8) (hdd : d1 < d) (hmc : nc + mc1 ≤ mc) (hms : ns + ms1 ≤ ms) (hC : mC G J d1 mc1 ms1 as μ ex Q1) (hex : ∀ r μ1 ex1, Q1 r μ1 ex1 → ex1 = true → ex = true ∧ μ1.length = μ.length + mc1) (k : ∀ r μ1 ex1, Q1 r μ1 ex1 → mT G I d mc ms (pc + 3) lo (r.toList ++ st) μ1 ex1 (nc + mc1) (ns + ms1) Q) : mT G I d mc ms pc lo (as.reverse ++ st) μ ex nc ns Q := by
  intro p e s m args below meth c H locs ls F hP hS hX hl hn hc
  obtain ⟨hJ, hw⟩ := mCa_ok _ _ (mLk hf)
  have hgi := mGood_in hJ
  have hrm : (mRoom d1 mc1 ms1).frames + 1 ≤ (mRoom d mc ms).frames ∧ 8 + (J.2.2.1 + 11) + (mRoom d1 mc1 ms1).locals ≤ (mRoom d mc ms).locals := ⟨by show d1 + 1 + 1 ≤ d + 1; omega, by show 8 + (J.2.2.1 + 11) + 60 * (d1 + 1) ≤ 60 * (d + 1); omega⟩
  have hcb : (Cond.code J.1 J.2.1 J.2.2.1 J.2.2.2.1).before args s = true := F.ts _ hJ.1
  have hib : (Cond.initialized J.1.cls).before args s = true := F.ts _ hJ.2.1
  have hM := mMet hJ.2.2.2.1 hml.1 hcat hC
  have hpre : PreS s H (mPc G as μ ex) (as.map (mTr G)) := ⟨mPc_blind, fun U hU hW => ⟨rfl, mWd_moved F.wd hW hU hS, by rw [hU]; exact hP, fun h => by rw [hU]; exact (hX h).1⟩⟩
  have hrun : va_Run p (gL G) e (mRoom d mc ms) s m args below meth c H locs nc ns mc1 ms1 (F0 m pc ls ((as.reverse ++ st).map (mTr G))) (st.map (mTr G)) (mQc G Q1 (as.map (mTr G)).toArray) (mA G) :=
    va_runS ⟨F.1, F.2.1, F.2.2.2.2.1, F.own ho, F.ts⟩ hM (n := J.2.2.2.2.2) ⟨⟨rfl, rfl, hrm.1, hrm.2, pay_in F.ts hgi, List.mem_cons_self, hcb, hib, ⟨hJ.2.2.1.1, hJ.2.2.1.2.1⟩, mSig hJ, F.ts _ hw.1⟩, F.ts _ hw.2⟩ hpre rfl (by rw [List.length_map]; exact hnp) hl.1 (by simp) (mRest G _ _ _ _ _ hst) hd ⟨hmc, hms⟩
  refine mGo (Q' := Q1) hrun hS (fun r μ1 ex1 H1 locs1 hq hP1 hS1 hx1 => ?_)
  have hk := k r μ1 ex1 hq p e s m args below meth c H1 locs1 ls F hP1 hS1 (fun h => by
    have a1 := hx1 h
    obtain ⟨a2, a3⟩ := hex r μ1 ex1 hq h
    have a4 := hX a2
    exact ⟨a1, by omega⟩) hl hn hc
  have e9 : (r.toList ++ st).map (mTr G) = (r.map (mTr G)).toList ++ st.map (mTr G) := by cases r <;> rfl
  rw [e9] at hk
  exact hk
theorem T_callI {q kd : Nat} {i d1 mc1 ms1 : Nat} {as : List Value} {J : mI} {Q1 : mQ} (hd : decode I.2.1 pc = .ok (.invokespecial i, 3)) (ho : mOwn.getD I.2.2.2.2.1 "" = I.1.cls) (hf : (mCa I.2.2.2.2.1).lookup i = some (kd, J)) (hkd : kd = 2 ∨ kd = 5) (hrt : J.2.2.2.1 = none) (hnp : as.length = J.2.2.2.2.2) (hml : as.length + 1 ≤ J.2.2.1 ∧ J.2.2.1 ≤ 40) (hcat : ∀ v ∈ as, v.category = 1) (hst : (st.map fun v => v.category).sum ≤ 8) (hdd : d1 < d) (hmc : nc + mc1 ≤ mc) (hms : ns + ms1 ≤ ms) (hC : mC G J d1 mc1 ms1 (.ref q :: as) μ ex Q1) (hex : ∀ r μ1 ex1, Q1 r μ1 ex1 → ex1 = true → ex = true ∧ μ1.length = μ.length + mc1) (k : ∀ r μ1 ex1, Q1 r μ1 ex1 → mT G I d mc ms (pc + 3) lo (r.toList ++ st) μ1 ex1 (nc + mc1) (ns + ms1) Q) : mT G I d mc ms pc lo (as.reverse ++ .ref q :: st) μ ex nc ns Q := by
  intro p e s m args below meth c H locs ls F hP hS hX hl hn hc
  obtain ⟨hJ, hw⟩ := mCa_ok _ _ (mLk hf)
  have hgi := mGood_in hJ
  have hrm : (mRoom d1 mc1 ms1).frames + 1 ≤ (mRoom d mc ms).frames ∧ 8 + (J.2.2.1 + 11) + (mRoom d1 mc1 ms1).locals ≤ (mRoom d mc ms).locals := ⟨by show d1 + 1 + 1 ≤ d + 1; omega, by show 8 + (J.2.2.1 + 11) + 60 * (d1 + 1) ≤ 60 * (d + 1); omega⟩
  have hcb : (Cond.code J.1 J.2.1 J.2.2.1 J.2.2.2.1).before args s = true := F.ts _ hJ.1
  have hib : (Cond.initialized J.1.cls).before args s = true := F.ts _ hJ.2.1
  have hM := mMet hJ.2.2.2.1 (by exact hml.1) (fun v hv => (List.mem_cons.mp hv).elim (fun h => by rw [h]; rfl) (hcat v)) hC
  have hpre : PreS s H (mPc G (.ref q :: as) μ ex) (Value.ref (mAd G q) :: as.map (mTr G)) := ⟨mPc_blind, fun U hU hW => ⟨rfl, mWd_moved F.wd hW hU hS, by rw [hU]; exact hP, fun h => by rw [hU]; exact (hX h).1⟩⟩
  obtain ⟨y, bytes, maxL, ret, own, np⟩ := J
  have hrt : ret = none := hrt
  subst hrt
  have hrun : va_Run p (gL G) e (mRoom d mc ms) s m args below meth c H locs nc ns mc1 ms1 (F0 m pc ls ((as.reverse ++ .ref q :: st).map (mTr G))) (st.map (mTr G)) (mQc G Q1 (Value.ref (mAd G q) :: as.map (mTr G)).toArray) (mA G) := by
    rcases hkd with rfl | rfl
    · exact va_runI ⟨F.1, F.2.1, F.2.2.2.2.1, F.own ho, F.ts⟩ hM (n := np) ⟨⟨rfl, rfl, hrm.1, hrm.2, pay_in F.ts hgi, List.mem_cons_self, hcb, hib, ⟨hJ.2.2.1.1, hJ.2.2.1.2.1⟩, mSig hJ, F.ts _ hw.1⟩, hw.2.2, F.ts _ hw.2.1⟩ hpre rfl (by rw [List.length_map]; exact hnp) hl.1 (by simp [mTr]) (mRest G _ _ _ _ _ hst) hd ⟨hmc, hms⟩
    · exact va_runIN ⟨F.1, F.2.1, F.2.2.2.2.1, F.own ho, F.ts⟩ hM (n := np) ⟨⟨⟨rfl, rfl, hrm.1, hrm.2, pay_in F.ts hgi, List.mem_cons_self⟩, hcb, hib, ⟨hJ.2.2.1.1, hJ.2.2.1.2.1⟩, mSig hJ, F.nest hw.1 rfl rfl⟩, hw.2.2, F.ts _ hw.2.1⟩ hpre rfl (by rw [List.length_map]; exact hnp) hl.1 (by simp [mTr]) (mRest G _ _ _ _ _ hst) hd ⟨hmc, hms⟩
  refine mGo (Q' := Q1) hrun hS (fun r μ1 ex1 H1 locs1 hq hP1 hS1 hx1 => ?_)
  have hk := k r μ1 ex1 hq p e s m args below meth c H1 locs1 ls F hP1 hS1 (fun h => by
    have a1 := hx1 h
    obtain ⟨a2, a3⟩ := hex r μ1 ex1 hq h
    have a4 := hX a2
    exact ⟨a1, by omega⟩) hl hn hc
  have e9 : (r.toList ++ st).map (mTr G) = (r.map (mTr G)).toList ++ st.map (mTr G) := by cases r <;> rfl
  rw [e9] at hk
  exact hk
end CA
end
section
/-! ===== the memory once all objects are made: only numbers change ===== -/
abbrev mS : Type := Nat → Nat → Int32
/-- an object: its class, its fields (a number, or a reference that stays); an array of numbers: its tag, its length; the row of references -/
abbrev mSE : Type := (Nat × List (Option Nat)) ⊕ (Nat × Nat) ⊕ (List Nat)
def mSh : List mSE := [
  .inl (4, [some 4, some 12, none, none, some 13, some 29, some 40, some 51]),
  .inl (3, [none, some 5, some 6, some 7, none, some 8, some 9, some 10, some 11]),
  .inr (.inl (0, 6)),
  .inr (.inl (0, 6)),
  .inr (.inl (0, 420)),
  .inr (.inl (0, 4)),
  .inr (.inl (0, 4)),
  .inr (.inl (0, 6)),
  .inr (.inl (0, 8)),
  .inr (.inr [52, 60, 68, 76, 84, 92, 100, 108]),
  .inl (2, [some 14, some 19, none, none, none, none, none, some 27, some 28]),
  .inl (1, [some 15, none, some 16, some 17, some 18, none]),
  .inr (.inl (1, 400)),
  .inr (.inl (0, 401)),
  .inr (.inl (0, 401)),
  .inr (.inl (0, 401)),
  .inl (3, [none, some 20, some 21, some 22, none, some 23, some 24, some 25, some 26]),
  .inr (.inl (0, 6)),
  .inr (.inl (0, 6)),
  .inr (.inl (0, 420)),
  .inr (.inl (0, 4)),
  .inr (.inl (0, 4)),
  .inr (.inl (0, 6)),
  .inr (.inl (0, 8)),
  .inr (.inl (0, 4)),
  .inr (.inl (0, 4)),
  .inl (0, [some 30, some 31, some 32, some 33, some 34, some 35, some 36, some 37, some 38, some 39, none, none]),
  .inr (.inl (0, 8)),
  .inr (.inl (0, 6)),
  .inr (.inl (0, 70)),
  .inr (.inl (2, 70)),
  .inr (.inl (0, 70)),
  .inr (.inl (0, 71)),
  .inr (.inl (0, 71)),
  .inr (.inl (0, 71)),
  .inr (.inl (0, 71)),
  .inr (.inl (2, 70)),
  .inl (0, [some 41, some 42, some 43, some 44, some 45, some 46, some 47, some 48, some 49, some 50, none, none]),
  .inr (.inl (0, 8)),
  .inr (.inl (0, 6)),
  .inr (.inl (0, 70)),
  .inr (.inl (2, 70)),
  .inr (.inl (0, 70)),
  .inr (.inl (0, 71)),
  .inr (.inl (0, 71)),
  .inr (.inl (0, 71)),
  .inr (.inl (0, 71)),
  .inr (.inl (2, 70)),
  .inr (.inl (0, 6)),
  .inl (3, [none, some 53, some 54, some 55, none, some 56, some 57, some 58, some 59]),
  .inr (.inl (0, 6)),
  .inr (.inl (0, 6)),
  .inr (.inl (0, 420)),
  .inr (.inl (0, 4)),
  .inr (.inl (0, 4)),
  .inr (.inl (0, 6)),
  .inr (.inl (0, 8)),
  .inl (3, [none, some 61, some 62, some 63, none, some 64, some 65, some 66, some 67]),
  .inr (.inl (0, 6)),
  .inr (.inl (0, 6)),
  .inr (.inl (0, 420)),
  .inr (.inl (0, 4)),
  .inr (.inl (0, 4)),
  .inr (.inl (0, 6)),
  .inr (.inl (0, 8)),
  .inl (3, [none, some 69, some 70, some 71, none, some 72, some 73, some 74, some 75]),
  .inr (.inl (0, 6)),
  .inr (.inl (0, 6)),
  .inr (.inl (0, 420)),
  .inr (.inl (0, 4)),
  .inr (.inl (0, 4)),
  .inr (.inl (0, 6)),
  .inr (.inl (0, 8)),
  .inl (3, [none, some 77, some 78, some 79, none, some 80, some 81, some 82, some 83]),
  .inr (.inl (0, 6)),
  .inr (.inl (0, 6)),
  .inr (.inl (0, 420)),
  .inr (.inl (0, 4)),
  .inr (.inl (0, 4)),
  .inr (.inl (0, 6)),
  .inr (.inl (0, 8)),
  .inl (3, [none, some 85, some 86, some 87, none, some 88, some 89, some 90, some 91]),
  .inr (.inl (0, 6)),
  .inr (.inl (0, 6)),
  .inr (.inl (0, 420)),
  .inr (.inl (0, 4)),
  .inr (.inl (0, 4)),
  .inr (.inl (0, 6)),
  .inr (.inl (0, 8)),
  .inl (3, [none, some 93, some 94, some 95, none, some 96, some 97, some 98, some 99]),
  .inr (.inl (0, 6)),
  .inr (.inl (0, 6)),
  .inr (.inl (0, 420)),
  .inr (.inl (0, 4)),
  .inr (.inl (0, 4)),
  .inr (.inl (0, 6)),
  .inr (.inl (0, 8)),
  .inl (3, [none, some 101, some 102, some 103, none, some 104, some 105, some 106, some 107]),
  .inr (.inl (0, 6)),
  .inr (.inl (0, 6)),
  .inr (.inl (0, 420)),
  .inr (.inl (0, 4)),
  .inr (.inl (0, 4)),
  .inr (.inl (0, 6)),
  .inr (.inl (0, 8)),
  .inl (3, [none, some 109, some 110, some 111, none, some 112, some 113, some 114, some 115]),
  .inr (.inl (0, 6)),
  .inr (.inl (0, 6)),
  .inr (.inl (0, 420)),
  .inr (.inl (0, 4)),
  .inr (.inl (0, 4)),
  .inr (.inl (0, 6)),
  .inr (.inl (0, 8)),
  .inl (5, [none, some 117, some 118, some 119, none, some 120, none, none, none, none, none, some 121, some 122, some 123, none, none, none, some 124, some 125, some 126, some 127, some 128, some 129, none, none, none, some 130]),
  .inr (.inl (0, 460)),
  .inr (.inl (0, 3680)),
  .inr (.inl (0, 460)),
  .inr (.inl (1, 400)),
  .inr (.inl (0, 70)),
  .inr (.inl (0, 5)),
  .inr (.inl (0, 5)),
  .inr (.inl (0, 70)),
  .inr (.inl (0, 70)),
  .inr (.inl (0, 70)),
  .inr (.inl (0, 71)),
  .inr (.inl (2, 70)),
  .inr (.inl (2, 70)),
  .inr (.inl (0, 70)),
  .inr (.inl (0, 14)),
  .inr (.inl (3, 1))]
def sh (a : Nat) : Option mSE := if a < 3 then none else mSh[a - 3]?
def mCell (σ : mS) (a : Nat) : mSE → va_E
  | .inl (ci, fs) => .inr (ci, fs.mapIdx (fun i f => match f with | none => .int (σ a i) | some r => .ref r))
  | .inr (.inl (t, n)) => if t = 3 then .inl (3, n, .inr (.inl (fun j => (σ a j).toInt64))) else .inl (t, n, .inl (σ a))
  | .inr (.inr rs) => .inl (4, rs.length, .inr (.inr (.inr (.inr (fun j => rs[j]?)))))
def mFz (σ : mS) : List va_E := mSh.mapIdx (fun k e => mCell σ (k + 3) e)
def upR (σ : mS) (a : Nat) (f : Nat → Int32) : mS := fun b => if b = a then f else σ b
def up (σ : mS) (a i : Nat) (v : Int32) : mS := upR σ a (upd (σ a) i v)
theorem upR_s (σ : mS) (a : Nat) (f : Nat → Int32) : upR σ a f a = f := by simp [upR]
theorem upR_n (σ : mS) {a b : Nat} (f : Nat → Int32) (h : b ≠ a) : upR σ a f b = σ b := by simp [upR, h]
theorem up_s (σ : mS) (a i : Nat) (v : Int32) : up σ a i v a i = v := by simp [up, upR, upd]
theorem up_r (σ : mS) (a : Nat) (v : Int32) {i j : Nat} (h : j ≠ i) : up σ a i v a j = σ a j := by simp [up, upR, upd, h]
theorem up_n (σ : mS) {a b : Nat} (i : Nat) (v : Int32) (h : b ≠ a) : up σ a i v b = σ b := by simp [up, upR, h]
theorem sh_c {a : Nat} {e : mSE} (h : sh a = some e) : ∃ k, a = k + 3 ∧ mSh[k]? = some e := by
  unfold sh at h
  split at h
  · cases h
  · exact ⟨a - 3, by omega, h⟩
theorem mFz_get {σ : mS} {k : Nat} {e : mSE} (h : mSh[k]? = some e) : (mFz σ)[k]? = some (mCell σ (k + 3) e) := by
  simp [mFz, List.getElem?_mapIdx, h]
theorem mFz_set {σ : mS} {k : Nat} {e : mSE} (h : mSh[k]? = some e) (f : Nat → Int32) : (mFz σ).set k (mCell (upR σ (k + 3) f) (k + 3) e) = mFz (upR σ (k + 3) f) := by
  have hk : k < mSh.length := (List.getElem?_eq_some_iff.mp h).1
  apply List.ext_getElem?
  intro j
  rw [List.getElem?_set]
  by_cases hj : k = j
  · subst hj
    rw [if_pos rfl, mFz_get h, if_pos (by simp [mFz, hk])]
  · rw [if_neg hj]
    have hc : ∀ e : mSE, mCell (upR σ (k + 3) f) (j + 3) e = mCell σ (j + 3) e := by
      intro e
      have hr : upR σ (k + 3) f (j + 3) = σ (j + 3) := upR_n σ f (by omega)
      unfold mCell
      rw [hr]
    simp only [mFz, List.getElem?_mapIdx]
    cases mSh[j]? with
    | none => rfl
    | some e => simp [hc e]
/-- the walk over such a memory -/
def mF (G : mG) (I : mI) (d pc : Nat) (lo : List (Option Value)) (st : List Value) (σ : mS) (Q : Option Value → mS → Prop) : Prop := mT G I d 0 0 pc lo st (mFz σ) false 0 0 (fun r μ ex => ex = false ∧ ∃ σ' : mS, μ = mFz σ' ∧ Q r σ')
/-- the method J, called with as over σ, answers r and leaves σ1 -/
def mV (G : mG) (J : mI) (d : Nat) (as : List Value) (σ : mS) (r : Option Value) (σ1 : mS) : Prop := mF G J d 0 (mLo J as) [] σ (fun r' σ' => r' = r ∧ σ' = σ1)
theorem nI_mul (a b : Nat) : nI a * nI b = nI (a * b) := by simp [nI, Int32.ofNat_mul]
theorem nI_sub {a b : Nat} (h : b ≤ a) : nI a - nI b = nI (a - b) := by
  have : nI (a - b) + nI b = nI a := by rw [nI_add]; congr 1; omega
  rw [← this]
  exact Int32.add_sub_cancel _ _
theorem nI_inj {a b : Nat} (ha : a < 2 ^ 31) (hb : b < 2 ^ 31) (h : nI a = nI b) : a = b := by
  have := congrArg Int32.toNatClampNeg h
  rwa [nI_clamp ha, nI_clamp hb] at this
theorem nI_le_iff {a b : Nat} (ha : a < 2 ^ 31) (hb : b < 2 ^ 31) : nI a ≤ nI b ↔ a ≤ b := by
  rw [Int32.le_iff_toInt_le, nI_toInt ha, nI_toInt hb]; omega
theorem nI_lt_iff {a b : Nat} (ha : a < 2 ^ 31) (hb : b < 2 ^ 31) : nI a < nI b ↔ a < b := by
  rw [Int32.lt_iff_toInt_lt, nI_toInt ha, nI_toInt hb]; omega
theorem nI_eq_iff {a b : Nat} (ha : a < 2 ^ 31) (hb : b < 2 ^ 31) : nI a = nI b ↔ a = b := ⟨nI_inj ha hb, fun h => by rw [h]⟩
theorem nI_in2 {j n : Nat} (h : j < n) (hn : n < 2 ^ 31) : vp_in (nI j) n := vp_in_nI h (by omega)
section FR
variable {G : mG} {I : mI} {d pc : Nat} {lo : List (Option Value)} {st : List Value} {σ : mS} {Q : Option Value → mS → Prop}
theorem F_iconst {n : Int} {v : Int32} (hd : decode I.2.1 pc = .ok (.iconst n, 1)) (hv : Int32.ofInt n = v) (k : mF G I d (pc + 1) lo (.int v :: st) σ Q) : mF G I d pc lo st σ Q := T_iconst hd hv k
theorem F_bipush {n : Int} {v : Int32} (hd : decode I.2.1 pc = .ok (.bipush n, 2)) (hv : (Int8.ofInt n).toInt32 = v) (k : mF G I d (pc + 2) lo (.int v :: st) σ Q) : mF G I d pc lo st σ Q := T_bipush hd hv k
theorem F_sipush {n : Int} {v : Int32} (hd : decode I.2.1 pc = .ok (.sipush n, 3)) (hv : (Int16.ofInt n).toInt32 = v) (k : mF G I d (pc + 3) lo (.int v :: st) σ Q) : mF G I d pc lo st σ Q := T_sipush hd hv k
theorem F_iload_n {k0 : Fin 4} {x : Int32} (hd : decode I.2.1 pc = .ok (.iload_n k0, 1)) (hx : lo[(k0 : Nat)]? = some (some (.int x))) (k : mF G I d (pc + 1) lo (.int x :: st) σ Q) : mF G I d pc lo st σ Q := T_iload_n hd hx k
theorem F_iload {i : Nat} {x : Int32} (hd : decode I.2.1 pc = .ok (.iload i, 2)) (hx : lo[i]? = some (some (.int x))) (k : mF G I d (pc + 2) lo (.int x :: st) σ Q) : mF G I d pc lo st σ Q := T_iload hd hx k
theorem F_aload_n {k0 : Fin 4} {x : Nat} (hd : decode I.2.1 pc = .ok (.aload_n k0, 1)) (hx : lo[(k0 : Nat)]? = some (some (.ref x))) (k : mF G I d (pc + 1) lo (.ref x :: st) σ Q) : mF G I d pc lo st σ Q := T_aload_n hd hx k
theorem F_aload {i : Nat} {x : Nat} (hd : decode I.2.1 pc = .ok (.aload i, 2)) (hx : lo[i]? = some (some (.ref x))) (k : mF G I d (pc + 2) lo (.ref x :: st) σ Q) : mF G I d pc lo st σ Q := T_aload hd hx k
theorem F_iadd {x y : Int32} (hd : decode I.2.1 pc = .ok (.iadd, 1))  (k : mF G I d (pc + 1) lo (.int (x + y) :: st) σ Q) : mF G I d pc lo (.int y :: .int x :: st) σ Q := T_iadd hd k
theorem F_isub {x y : Int32} (hd : decode I.2.1 pc = .ok (.isub, 1))  (k : mF G I d (pc + 1) lo (.int (x - y) :: st) σ Q) : mF G I d pc lo (.int y :: .int x :: st) σ Q := T_isub hd k
theorem F_imul {x y : Int32} (hd : decode I.2.1 pc = .ok (.imul, 1))  (k : mF G I d (pc + 1) lo (.int (x * y) :: st) σ Q) : mF G I d pc lo (.int y :: .int x :: st) σ Q := T_imul hd k
theorem F_iand {x y : Int32} (hd : decode I.2.1 pc = .ok (.iand, 1))  (k : mF G I d (pc + 1) lo (.int (x &&& y) :: st) σ Q) : mF G I d pc lo (.int y :: .int x :: st) σ Q := T_iand hd k
theorem F_ior {x y : Int32} (hd : decode I.2.1 pc = .ok (.ior, 1))  (k : mF G I d (pc + 1) lo (.int (x ||| y) :: st) σ Q) : mF G I d pc lo (.int y :: .int x :: st) σ Q := T_ior hd k
theorem F_ishl {x y : Int32} (hd : decode I.2.1 pc = .ok (.ishl, 1))  (k : mF G I d (pc + 1) lo (.int (x <<< (y &&& 31)) :: st) σ Q) : mF G I d pc lo (.int y :: .int x :: st) σ Q := T_ishl hd k
theorem F_ishr {x y : Int32} (hd : decode I.2.1 pc = .ok (.ishr, 1))  (k : mF G I d (pc + 1) lo (.int (x >>> (y &&& 31)) :: st) σ Q) : mF G I d pc lo (.int y :: .int x :: st) σ Q := T_ishr hd k
theorem F_idiv {x y : Int32} (hd : decode I.2.1 pc = .ok (.idiv, 1)) (hne : ¬ y = 0) (k : mF G I d (pc + 1) lo (.int (x / y) :: st) σ Q) : mF G I d pc lo (.int y :: .int x :: st) σ Q := T_idiv hd hne k
theorem F_irem {x y : Int32} (hd : decode I.2.1 pc = .ok (.irem, 1)) (hne : ¬ y = 0) (k : mF G I d (pc + 1) lo (.int (x - x / y * y) :: st) σ Q) : mF G I d pc lo (.int y :: .int x :: st) σ Q := T_irem hd hne k
theorem F_i2b {x : Int32} (hd : decode I.2.1 pc = .ok (.i2b, 1))  (k : mF G I d (pc + 1) lo (.int x.toInt8.toInt32 :: st) σ Q) : mF G I d pc lo (.int x :: st) σ Q := T_i2b hd k
theorem F_i2l {x : Int32} (hd : decode I.2.1 pc = .ok (.i2l, 1))  (k : mF G I d (pc + 1) lo (.long x.toInt64 :: st) σ Q) : mF G I d pc lo (.int x :: st) σ Q := T_i2l hd k
theorem F_lcmp {x y : Int64} (hd : decode I.2.1 pc = .ok (.lcmp, 1))  (k : mF G I d (pc + 1) lo (.int (lg_cmp x y) :: st) σ Q) : mF G I d pc lo (.long y :: .long x :: st) σ Q := T_lcmp hd k
theorem F_dup {v : Value} (hd : decode I.2.1 pc = .ok (.dup, 1)) (hv : v.category = 1) (k : mF G I d (pc + 1) lo (v :: v :: st) σ Q) : mF G I d pc lo (v :: st) σ Q := T_dup hd hv k
theorem F_dup2 {v w : Value} (hd : decode I.2.1 pc = .ok (.dup2, 1)) (hv : v.category = 1) (hw : w.category = 1) (k : mF G I d (pc + 1) lo (v :: w :: v :: w :: st) σ Q) : mF G I d pc lo (v :: w :: st) σ Q := T_dup2 hd hv hw k
theorem F_pop {v : Value} (hd : decode I.2.1 pc = .ok (.pop, 1)) (hv : v.category = 1) (k : mF G I d (pc + 1) lo st σ Q) : mF G I d pc lo (v :: st) σ Q := T_pop hd hv k
theorem F_istore_n {k0 : Fin 4} {x : Int32} (hd : decode I.2.1 pc = .ok (.istore_n k0, 1)) (hi : (k0 : Nat) < lo.length) (k : mF G I d (pc + 1) (lo.set (k0 : Nat) (some (.int x))) st σ Q) : mF G I d pc lo (.int x :: st) σ Q := T_istore_n hd hi k
theorem F_istore {i : Nat} {x : Int32} (hd : decode I.2.1 pc = .ok (.istore i, 2)) (hi : i < lo.length) (k : mF G I d (pc + 2) (lo.set i (some (.int x))) st σ Q) : mF G I d pc lo (.int x :: st) σ Q := T_istore hd hi k
theorem F_astore_n {k0 : Fin 4} {x : Nat} (hd : decode I.2.1 pc = .ok (.astore_n k0, 1)) (hi : (k0 : Nat) < lo.length) (k : mF G I d (pc + 1) (lo.set (k0 : Nat) (some (.ref x))) st σ Q) : mF G I d pc lo (.ref x :: st) σ Q := T_astore_n hd hi k
theorem F_astore {i : Nat} {x : Nat} (hd : decode I.2.1 pc = .ok (.astore i, 2)) (hi : i < lo.length) (k : mF G I d (pc + 2) (lo.set i (some (.ref x))) st σ Q) : mF G I d pc lo (.ref x :: st) σ Q := T_astore hd hi k
theorem F_iinc {i : Nat} {n : Int} {x v : Int32} (hd : decode I.2.1 pc = .ok (.iinc i n, 3)) (hx : lo[i]? = some (some (.int x))) (hv : x + Int32.ofInt n = v) (k : mF G I d (pc + 3) (lo.set i (some (.int v))) st σ Q) : mF G I d pc lo st σ Q := T_iinc hd hx hv k
theorem F_iincN {i x : Nat} (hd : decode I.2.1 pc = .ok (.iinc i 1, 3)) (hx : lo[i]? = some (some (.int (nI x)))) (k : mF G I d (pc + 3) (lo.set i (some (.int (nI (x + 1))))) st σ Q) : mF G I d pc lo st σ Q := T_iinc hd hx (by rw [nI_succ]; rfl) k
theorem F_goto {off : Int} {tgt : Nat} (hd : decode I.2.1 pc = .ok (.goto off, 3)) (ht : (pc : Int) + off = (tgt : Int)) (k : mF G I d tgt lo st σ Q) : mF G I d pc lo st σ Q := T_goto hd ht k
theorem F_icmp_eq {x y : Int32} {off : Int} {tgt : Nat} (hd : decode I.2.1 pc = .ok (.if_icmp .eq off, 3)) (ht : (pc : Int) + off = (tgt : Int)) (kt : x = y → mF G I d tgt lo st σ Q) (kf : ¬ x = y → mF G I d (pc + 3) lo st σ Q) : mF G I d pc lo (.int y :: .int x :: st) σ Q := T_icmp_eq hd ht kt kf
theorem F_icmp_eqN {x y : Nat} {off : Int} {tgt : Nat} (hd : decode I.2.1 pc = .ok (.if_icmp .eq off, 3)) (ht : (pc : Int) + off = (tgt : Int)) (hx : x < 2 ^ 31) (hy : y < 2 ^ 31) (kt : x = y → mF G I d tgt lo st σ Q) (kf : ¬ (x = y) → mF G I d (pc + 3) lo st σ Q) : mF G I d pc lo (.int (nI y) :: .int (nI x) :: st) σ Q := by
  exact T_icmp_eq hd ht (fun h => kt ((nI_eq_iff hx hy).mp h)) (fun h => kf (fun z => h ((nI_eq_iff hx hy).mpr z)))
theorem F_if_eq {x : Int32} {off : Int} {tgt : Nat} (hd : decode I.2.1 pc = .ok (.ifCond .eq off, 3)) (ht : (pc : Int) + off = (tgt : Int)) (kt : x = 0 → mF G I d tgt lo st σ Q) (kf : ¬ x = 0 → mF G I d (pc + 3) lo st σ Q) : mF G I d pc lo (.int x :: st) σ Q := T_if_eq hd ht kt kf
theorem F_icmp_ne {x y : Int32} {off : Int} {tgt : Nat} (hd : decode I.2.1 pc = .ok (.if_icmp .ne off, 3)) (ht : (pc : Int) + off = (tgt : Int)) (kt : ¬ x = y → mF G I d tgt lo st σ Q) (kf : x = y → mF G I d (pc + 3) lo st σ Q) : mF G I d pc lo (.int y :: .int x :: st) σ Q := T_icmp_ne hd ht kt kf
theorem F_icmp_neN {x y : Nat} {off : Int} {tgt : Nat} (hd : decode I.2.1 pc = .ok (.if_icmp .ne off, 3)) (ht : (pc : Int) + off = (tgt : Int)) (hx : x < 2 ^ 31) (hy : y < 2 ^ 31) (kt : ¬ x = y → mF G I d tgt lo st σ Q) (kf : ¬ (¬ x = y) → mF G I d (pc + 3) lo st σ Q) : mF G I d pc lo (.int (nI y) :: .int (nI x) :: st) σ Q := by
  exact T_icmp_ne hd ht (fun h => kt (fun z => h ((nI_eq_iff hx hy).mpr z))) (fun h => kf (fun z => z ((nI_eq_iff hx hy).mp h)))
theorem F_if_ne {x : Int32} {off : Int} {tgt : Nat} (hd : decode I.2.1 pc = .ok (.ifCond .ne off, 3)) (ht : (pc : Int) + off = (tgt : Int)) (kt : ¬ x = 0 → mF G I d tgt lo st σ Q) (kf : x = 0 → mF G I d (pc + 3) lo st σ Q) : mF G I d pc lo (.int x :: st) σ Q := T_if_ne hd ht kt kf
theorem F_icmp_lt {x y : Int32} {off : Int} {tgt : Nat} (hd : decode I.2.1 pc = .ok (.if_icmp .lt off, 3)) (ht : (pc : Int) + off = (tgt : Int)) (kt : x < y → mF G I d tgt lo st σ Q) (kf : ¬ x < y → mF G I d (pc + 3) lo st σ Q) : mF G I d pc lo (.int y :: .int x :: st) σ Q := T_icmp_lt hd ht kt kf
theorem F_icmp_ltN {x y : Nat} {off : Int} {tgt : Nat} (hd : decode I.2.1 pc = .ok (.if_icmp .lt off, 3)) (ht : (pc : Int) + off = (tgt : Int)) (hx : x < 2 ^ 31) (hy : y < 2 ^ 31) (kt : x < y → mF G I d tgt lo st σ Q) (kf : ¬ (x < y) → mF G I d (pc + 3) lo st σ Q) : mF G I d pc lo (.int (nI y) :: .int (nI x) :: st) σ Q := by
  exact T_icmp_lt hd ht (fun h => kt ((nI_lt_iff hx hy).mp h)) (fun h => kf (fun z => h ((nI_lt_iff hx hy).mpr z)))
theorem F_if_lt {x : Int32} {off : Int} {tgt : Nat} (hd : decode I.2.1 pc = .ok (.ifCond .lt off, 3)) (ht : (pc : Int) + off = (tgt : Int)) (kt : x < 0 → mF G I d tgt lo st σ Q) (kf : ¬ x < 0 → mF G I d (pc + 3) lo st σ Q) : mF G I d pc lo (.int x :: st) σ Q := T_if_lt hd ht kt kf
theorem F_icmp_ge {x y : Int32} {off : Int} {tgt : Nat} (hd : decode I.2.1 pc = .ok (.if_icmp .ge off, 3)) (ht : (pc : Int) + off = (tgt : Int)) (kt : y ≤ x → mF G I d tgt lo st σ Q) (kf : ¬ y ≤ x → mF G I d (pc + 3) lo st σ Q) : mF G I d pc lo (.int y :: .int x :: st) σ Q := T_icmp_ge hd ht kt kf
theorem F_icmp_geN {x y : Nat} {off : Int} {tgt : Nat} (hd : decode I.2.1 pc = .ok (.if_icmp .ge off, 3)) (ht : (pc : Int) + off = (tgt : Int)) (hx : x < 2 ^ 31) (hy : y < 2 ^ 31) (kt : y ≤ x → mF G I d tgt lo st σ Q) (kf : ¬ (y ≤ x) → mF G I d (pc + 3) lo st σ Q) : mF G I d pc lo (.int (nI y) :: .int (nI x) :: st) σ Q := by
  exact T_icmp_ge hd ht (fun h => kt ((nI_le_iff hy hx).mp h)) (fun h => kf (fun z => h ((nI_le_iff hy hx).mpr z)))
theorem F_if_ge {x : Int32} {off : Int} {tgt : Nat} (hd : decode I.2.1 pc = .ok (.ifCond .ge off, 3)) (ht : (pc : Int) + off = (tgt : Int)) (kt : 0 ≤ x → mF G I d tgt lo st σ Q) (kf : ¬ 0 ≤ x → mF G I d (pc + 3) lo st σ Q) : mF G I d pc lo (.int x :: st) σ Q := T_if_ge hd ht kt kf
theorem F_icmp_gt {x y : Int32} {off : Int} {tgt : Nat} (hd : decode I.2.1 pc = .ok (.if_icmp .gt off, 3)) (ht : (pc : Int) + off = (tgt : Int)) (kt : y < x → mF G I d tgt lo st σ Q) (kf : ¬ y < x → mF G I d (pc + 3) lo st σ Q) : mF G I d pc lo (.int y :: .int x :: st) σ Q := T_icmp_gt hd ht kt kf
theorem F_icmp_gtN {x y : Nat} {off : Int} {tgt : Nat} (hd : decode I.2.1 pc = .ok (.if_icmp .gt off, 3)) (ht : (pc : Int) + off = (tgt : Int)) (hx : x < 2 ^ 31) (hy : y < 2 ^ 31) (kt : y < x → mF G I d tgt lo st σ Q) (kf : ¬ (y < x) → mF G I d (pc + 3) lo st σ Q) : mF G I d pc lo (.int (nI y) :: .int (nI x) :: st) σ Q := by
  exact T_icmp_gt hd ht (fun h => kt ((nI_lt_iff hy hx).mp h)) (fun h => kf (fun z => h ((nI_lt_iff hy hx).mpr z)))
theorem F_if_gt {x : Int32} {off : Int} {tgt : Nat} (hd : decode I.2.1 pc = .ok (.ifCond .gt off, 3)) (ht : (pc : Int) + off = (tgt : Int)) (kt : 0 < x → mF G I d tgt lo st σ Q) (kf : ¬ 0 < x → mF G I d (pc + 3) lo st σ Q) : mF G I d pc lo (.int x :: st) σ Q := T_if_gt hd ht kt kf
theorem F_icmp_le {x y : Int32} {off : Int} {tgt : Nat} (hd : decode I.2.1 pc = .ok (.if_icmp .le off, 3)) (ht : (pc : Int) + off = (tgt : Int)) (kt : x ≤ y → mF G I d tgt lo st σ Q) (kf : ¬ x ≤ y → mF G I d (pc + 3) lo st σ Q) : mF G I d pc lo (.int y :: .int x :: st) σ Q := T_icmp_le hd ht kt kf
theorem F_icmp_leN {x y : Nat} {off : Int} {tgt : Nat} (hd : decode I.2.1 pc = .ok (.if_icmp .le off, 3)) (ht : (pc : Int) + off = (tgt : Int)) (hx : x < 2 ^ 31) (hy : y < 2 ^ 31) (kt : x ≤ y → mF G I d tgt lo st σ Q) (kf : ¬ (x ≤ y) → mF G I d (pc + 3) lo st σ Q) : mF G I d pc lo (.int (nI y) :: .int (nI x) :: st) σ Q := by
  exact T_icmp_le hd ht (fun h => kt ((nI_le_iff hx hy).mp h)) (fun h => kf (fun z => h ((nI_le_iff hx hy).mpr z)))
theorem F_if_le {x : Int32} {off : Int} {tgt : Nat} (hd : decode I.2.1 pc = .ok (.ifCond .le off, 3)) (ht : (pc : Int) + off = (tgt : Int)) (kt : x ≤ 0 → mF G I d tgt lo st σ Q) (kf : ¬ x ≤ 0 → mF G I d (pc + 3) lo st σ Q) : mF G I d pc lo (.int x :: st) σ Q := T_if_le hd ht kt kf
theorem F_if_eqN {x : Nat} {off : Int} {tgt : Nat} (hd : decode I.2.1 pc = .ok (.ifCond .eq off, 3)) (ht : (pc : Int) + off = (tgt : Int)) (hx : x < 2 ^ 31) (kt : x = 0 → mF G I d tgt lo st σ Q) (kf : ¬ x = 0 → mF G I d (pc + 3) lo st σ Q) : mF G I d pc lo (.int (nI x) :: st) σ Q := T_if_eq hd ht (fun h => kt ((nI_eq_iff hx (by omega)).mp h)) (fun h => kf (fun z => h (by rw [z]; rfl)))
theorem F_if_neN {x : Nat} {off : Int} {tgt : Nat} (hd : decode I.2.1 pc = .ok (.ifCond .ne off, 3)) (ht : (pc : Int) + off = (tgt : Int)) (hx : x < 2 ^ 31) (kt : ¬ x = 0 → mF G I d tgt lo st σ Q) (kf : x = 0 → mF G I d (pc + 3) lo st σ Q) : mF G I d pc lo (.int (nI x) :: st) σ Q := T_if_ne hd ht (fun h => kt (fun z => h (by rw [z]; rfl))) (fun h => kf ((nI_eq_iff hx (by omega)).mp h))
theorem F_if_gtN {x : Nat} {off : Int} {tgt : Nat} (hd : decode I.2.1 pc = .ok (.ifCond .gt off, 3)) (ht : (pc : Int) + off = (tgt : Int)) (hx : x < 2 ^ 31) (kt : 0 < x → mF G I d tgt lo st σ Q) (kf : x = 0 → mF G I d (pc + 3) lo st σ Q) : mF G I d pc lo (.int (nI x) :: st) σ Q := T_if_gt hd ht (fun h => kt ((nI_lt_iff (a := 0) (by decide) hx).mp h)) (fun h => kf (Nat.eq_zero_of_not_pos fun z => h ((nI_lt_iff (a := 0) (by decide) hx).mpr z)))
theorem F_if_leN {x : Nat} {off : Int} {tgt : Nat} (hd : decode I.2.1 pc = .ok (.ifCond .le off, 3)) (ht : (pc : Int) + off = (tgt : Int)) (hx : x < 2 ^ 31) (kt : x = 0 → mF G I d tgt lo st σ Q) (kf : 0 < x → mF G I d (pc + 3) lo st σ Q) : mF G I d pc lo (.int (nI x) :: st) σ Q := T_if_le hd ht (fun h => kt (Nat.le_zero.mp ((nI_le_iff (b := 0) hx (by decide)).mp h))) (fun h => kf (Nat.pos_of_ne_zero fun z => h ((nI_le_iff (b := 0) hx (by decide)).mpr (by omega))))
theorem F_if_ltN {x : Nat} {off : Int} {tgt : Nat} (hd : decode I.2.1 pc = .ok (.ifCond .lt off, 3)) (ht : (pc : Int) + off = (tgt : Int)) (hx : x < 2 ^ 31) (kf : mF G I d (pc + 3) lo st σ Q) : mF G I d pc lo (.int (nI x) :: st) σ Q := T_if_lt hd ht (fun h => absurd h (nI_pos hx)) (fun _ => kf)
theorem F_if_geN {x : Nat} {off : Int} {tgt : Nat} (hd : decode I.2.1 pc = .ok (.ifCond .ge off, 3)) (ht : (pc : Int) + off = (tgt : Int)) (hx : x < 2 ^ 31) (kt : mF G I d tgt lo st σ Q) : mF G I d pc lo (.int (nI x) :: st) σ Q := T_if_ge hd ht (fun _ => kt) (fun h => absurd (nI_pos' hx) h)
theorem F_iaddN {x y : Nat} (hd : decode I.2.1 pc = .ok (.iadd, 1)) (k : mF G I d (pc + 1) lo (.int (nI (x + y)) :: st) σ Q) : mF G I d pc lo (.int (nI y) :: .int (nI x) :: st) σ Q := T_iadd hd (by rw [nI_add]; exact k)
theorem F_imulN {x y : Nat} (hd : decode I.2.1 pc = .ok (.imul, 1)) (k : mF G I d (pc + 1) lo (.int (nI (x * y)) :: st) σ Q) : mF G I d pc lo (.int (nI y) :: .int (nI x) :: st) σ Q := T_imul hd (by rw [nI_mul]; exact k)
theorem F_isubN {x y : Nat} (hd : decode I.2.1 pc = .ok (.isub, 1)) (h : y ≤ x) (k : mF G I d (pc + 1) lo (.int (nI (x - y)) :: st) σ Q) : mF G I d pc lo (.int (nI y) :: .int (nI x) :: st) σ Q := T_isub hd (by rw [nI_sub h]; exact k)
theorem F_top {x y : Int32} (h : x = y) (k : mF G I d pc lo (.int y :: st) σ Q) : mF G I d pc lo (.int x :: st) σ Q := by rw [h]; exact k
theorem F_lo {lo2 : List (Option Value)} (h : lo = lo2) (k : mF G I d pc lo2 st σ Q) : mF G I d pc lo st σ Q := by rw [h]; exact k
theorem F_sg {σ2 : mS} (h : σ = σ2) (k : mF G I d pc lo st σ2 Q) : mF G I d pc lo st σ Q := by rw [h]; exact k
theorem F_q {Q2 : Option Value → mS → Prop} (h : ∀ r σ1, Q2 r σ1 → Q r σ1) (k : mF G I d pc lo st σ Q2) : mF G I d pc lo st σ Q := by
  intro p e s m args below meth c H locs ls F hP hS hX hl hn hc T hT X
  obtain ⟨t, h1, o, h2, h3, h4, h5⟩ := k p e s m args below meth c H locs ls F hP hS hX hl hn hc T hT X
  refine ⟨t, h1, o, h2, h3, ?_, h5⟩
  obtain ⟨⟨r, μ, ex, ⟨hex, σ1, hμ, hq⟩, h6⟩, h7⟩ := h4
  exact ⟨⟨r, μ, ex, ⟨hex, σ1, hμ, h r σ1 hq⟩, h6⟩, h7⟩
theorem F_tableIn {dflt l0 hi : Int} {offs : Array Int} {len : Nat} {x : Int32} {off : Int} {tgt : Nat} (hd : decode I.2.1 pc = .ok (.tableswitch dflt l0 hi offs, len)) (h1 : ¬ x.toInt < l0) (h2 : ¬ hi < x.toInt) (ho : offs[(x.toInt - l0).toNat]? = some off) (ht : (pc : Int) + off = (tgt : Int)) (k : mF G I d tgt lo st σ Q) : mF G I d pc lo (.int x :: st) σ Q := T_tableIn hd h1 h2 ho ht k
theorem F_tableOut {dflt l0 hi : Int} {offs : Array Int} {len : Nat} {x : Int32} {tgt : Nat} (hd : decode I.2.1 pc = .ok (.tableswitch dflt l0 hi offs, len)) (h : x.toInt < l0 ∨ hi < x.toInt) (ht : (pc : Int) + dflt = (tgt : Int)) (k : mF G I d tgt lo st σ Q) : mF G I d pc lo (.int x :: st) σ Q := T_tableOut hd h ht k
theorem F_lookup {dflt : Int} {ps : Array (Int × Int)} {len : Nat} {x : Int32} {off : Int} {tgt : Nat} (hd : decode I.2.1 pc = .ok (.lookupswitch dflt ps, len)) (hp : (ps.toList.zip (ps.toList.drop 1)).all (fun (a, next) => a.1 < next.1) = true) (ho : Op.lookupswitch.offset ps.toList dflt x.toInt = off) (ht : (pc : Int) + off = (tgt : Int)) (k : mF G I d tgt lo st σ Q) : mF G I d pc lo (.int x :: st) σ Q := T_lookup hd hp ho ht k
theorem F_ldc {i : Nat} {v : Int32} (hd : decode I.2.1 pc = .ok (.ldc i, 2)) (ho : mOwn.getD I.2.2.2.2.1 "" = I.1.cls) (hf : (mCo I.2.2.2.2.1).lookup i = some v) (k : mF G I d (pc + 2) lo (.int v :: st) σ Q) : mF G I d pc lo st σ Q := T_ldc hd ho hf k
theorem F_getstatic {i q : Nat} {nest : Bool} (hd : decode I.2.1 pc = .ok (.getstatic i, 3)) (ho : mOwn.getD I.2.2.2.2.1 "" = I.1.cls) (hf : (mGs I.2.2.2.2.1).lookup i = some (q, nest)) (k : mF G I d (pc + 3) lo (.ref q :: st) σ Q) : mF G I d pc lo st σ Q := T_getstatic hd ho hf k
theorem F_geti {a i ci k0 : Nat} {nest : Bool} {fs : List (Option Nat)} (hd : decode I.2.1 pc = .ok (.getfield i, 3)) (ho : mOwn.getD I.2.2.2.2.1 "" = I.1.cls) (hf : (mFl I.2.2.2.2.1).lookup i = some (ci, k0, nest)) (hs : sh a = some (.inl (ci, fs))) (hk : fs[k0]? = some none) (k : mF G I d (pc + 3) lo (.int (σ a k0) :: st) σ Q) : mF G I d pc lo (.ref a :: st) σ Q := by
  obtain ⟨n, rfl, hn⟩ := sh_c hs
  exact T_get hd ho hf (mFz_get hn) (v := .int (σ (n + 3) k0)) (by rw [List.getElem?_mapIdx, hk]; rfl) k
theorem F_getr {r a i ci k0 : Nat} {nest : Bool} {fs : List (Option Nat)} (hd : decode I.2.1 pc = .ok (.getfield i, 3)) (ho : mOwn.getD I.2.2.2.2.1 "" = I.1.cls) (hf : (mFl I.2.2.2.2.1).lookup i = some (ci, k0, nest)) (hs : sh a = some (.inl (ci, fs))) (hk : fs[k0]? = some (some r)) (k : mF G I d (pc + 3) lo (.ref r :: st) σ Q) : mF G I d pc lo (.ref a :: st) σ Q := by
  obtain ⟨n, rfl, hn⟩ := sh_c hs
  exact T_get hd ho hf (mFz_get hn) (v := .ref r) (by rw [List.getElem?_mapIdx, hk]; rfl) k
theorem F_put {a i ci k0 : Nat} {nest : Bool} {fs : List (Option Nat)} {x : Int32} {r : vw_C} (hd : decode I.2.1 pc = .ok (.putfield i, 3)) (ho : mOwn.getD I.2.2.2.2.1 "" = I.1.cls) (hf : (mFl I.2.2.2.2.1).lookup i = some (ci, k0, nest)) (hs : sh a = some (.inl (ci, fs))) (hr : mCl[ci]? = some r) (hfi : (r.2.1 k0).2.2.2 = false) (hty : (r.2.1 k0).2.2.1 = "I") (hk : fs[k0]? = some none) (k : mF G I d (pc + 3) lo st (up σ a k0 x) Q) : mF G I d pc lo (.int x :: .ref a :: st) σ Q := by
  obtain ⟨n, rfl, hn⟩ := sh_c hs
  have hk2 : k0 < fs.length := (List.getElem?_eq_some_iff.mp hk).1
  refine T_put hd ho hf hr hfi hty (mFz_get hn) (by simp [hk2]) ?_
  have e9 : (.inr (ci, (fs.mapIdx (fun i f => match f with | none => Value.int (σ (n + 3) i) | some r => .ref r)).set k0 (.int x)) : va_E) = mCell (upR σ (n + 3) (upd (σ (n + 3)) k0 x)) (n + 3) (.inl (ci, fs)) := by
    simp only [mCell]
    congr 2
    apply List.ext_getElem?
    intro j
    rw [List.getElem?_set, List.getElem?_mapIdx, List.getElem?_mapIdx, upR_s]
    by_cases hj : k0 = j
    · subst hj
      rw [if_pos rfl, if_pos (by simp [hk2]), hk]
      simp [upd]
    · rw [if_neg hj]
      cases fs[j]? with
      | none => rfl
      | some f =>
        cases f with
        | none => simp [upd, Ne.symm hj]
        | some r => rfl
  rw [e9, mFz_set hn]
  exact k
theorem F_iald {a n j : Nat} (hd : decode I.2.1 pc = .ok (.iaload, 1)) (hs : sh a = some (.inr (.inl (0, n)))) (hn : n < 2 ^ 31) (hj : j < n) (k : mF G I d (pc + 1) lo (.int (σ a j) :: st) σ Q) : mF G I d pc lo (.int (nI j) :: .ref a :: st) σ Q := by
  obtain ⟨m, rfl, hm⟩ := sh_c hs
  refine T_iaload hd (mFz_get hm) (nI_in2 hj hn) ?_
  rw [nI_clamp (by omega)]
  exact k
theorem F_bald {a n j : Nat} (hd : decode I.2.1 pc = .ok (.baload, 1)) (hs : sh a = some (.inr (.inl (1, n)))) (hn : n < 2 ^ 31) (hj : j < n) (k : mF G I d (pc + 1) lo (.int (σ a j) :: st) σ Q) : mF G I d pc lo (.int (nI j) :: .ref a :: st) σ Q := by
  obtain ⟨m, rfl, hm⟩ := sh_c hs
  refine T_baload hd (mFz_get hm) (nI_in2 hj hn) ?_
  rw [nI_clamp (by omega)]
  exact k
theorem F_zald {a n j : Nat} (hd : decode I.2.1 pc = .ok (.baload, 1)) (hs : sh a = some (.inr (.inl (2, n)))) (hn : n < 2 ^ 31) (hj : j < n) (k : mF G I d (pc + 1) lo (.int (σ a j) :: st) σ Q) : mF G I d pc lo (.int (nI j) :: .ref a :: st) σ Q := by
  obtain ⟨m, rfl, hm⟩ := sh_c hs
  refine T_zaload hd (mFz_get hm) (nI_in2 hj hn) ?_
  rw [nI_clamp (by omega)]
  exact k
theorem F_lald {a n j : Nat} (hd : decode I.2.1 pc = .ok (.laload, 1)) (hs : sh a = some (.inr (.inl (3, n)))) (hn : n < 2 ^ 31) (hj : j < n) (k : mF G I d (pc + 1) lo (.long (σ a j).toInt64 :: st) σ Q) : mF G I d pc lo (.int (nI j) :: .ref a :: st) σ Q := by
  obtain ⟨m, rfl, hm⟩ := sh_c hs
  refine T_laload hd (mFz_get hm) (nI_in2 hj hn) ?_
  rw [nI_clamp (by omega)]
  exact k
theorem F_aald {a j q : Nat} {rs : List Nat} (hd : decode I.2.1 pc = .ok (.aaload, 1)) (hs : sh a = some (.inr (.inr rs))) (hn : rs.length < 2 ^ 31) (hj : rs[j]? = some q) (k : mF G I d (pc + 1) lo (.ref q :: st) σ Q) : mF G I d pc lo (.int (nI j) :: .ref a :: st) σ Q := by
  obtain ⟨m, rfl, hm⟩ := sh_c hs
  have hl : j < rs.length := (List.getElem?_eq_some_iff.mp hj).1
  exact T_aaload hd (mFz_get hm) (nI_in2 hl hn) (by rw [nI_clamp (by omega)]; exact hj) k
theorem F_iast {a n j : Nat} {x : Int32} (hd : decode I.2.1 pc = .ok (.iastore, 1)) (hs : sh a = some (.inr (.inl (0, n)))) (hn : n < 2 ^ 31) (hj : j < n) (k : mF G I d (pc + 1) lo st (up σ a j x) Q) : mF G I d pc lo (.int x :: .int (nI j) :: .ref a :: st) σ Q := by
  obtain ⟨m, rfl, hm⟩ := sh_c hs
  refine T_iastore hd (mFz_get hm) (nI_in2 hj hn) ?_
  rw [nI_clamp (by omega)]
  have e9 : (.inl (0, n, .inl (upd (σ (m + 3)) j x)) : va_E) = mCell (upR σ (m + 3) (upd (σ (m + 3)) j x)) (m + 3) (.inr (.inl (0, n))) := by
    simp only [mCell, upR_s]
    rfl
  rw [e9, mFz_set hm]
  exact k
theorem F_bast {a n j : Nat} {x : Int32} (hd : decode I.2.1 pc = .ok (.bastore, 1)) (hs : sh a = some (.inr (.inl (1, n)))) (hn : n < 2 ^ 31) (hj : j < n) (k : mF G I d (pc + 1) lo st (up σ a j (vp_nar .byte x)) Q) : mF G I d pc lo (.int x :: .int (nI j) :: .ref a :: st) σ Q := by
  obtain ⟨m, rfl, hm⟩ := sh_c hs
  refine T_bastore hd (mFz_get hm) (nI_in2 hj hn) ?_
  rw [nI_clamp (by omega)]
  have e9 : (.inl (1, n, .inl (upd (σ (m + 3)) j (vp_nar .byte x))) : va_E) = mCell (upR σ (m + 3) (upd (σ (m + 3)) j (vp_nar .byte x))) (m + 3) (.inr (.inl (1, n))) := by
    simp only [mCell, upR_s]
    rfl
  rw [e9, mFz_set hm]
  exact k
theorem F_zast {a n j : Nat} {x : Int32} (hd : decode I.2.1 pc = .ok (.bastore, 1)) (hs : sh a = some (.inr (.inl (2, n)))) (hn : n < 2 ^ 31) (hj : j < n) (k : mF G I d (pc + 1) lo st (up σ a j (vp_nar .boolean x)) Q) : mF G I d pc lo (.int x :: .int (nI j) :: .ref a :: st) σ Q := by
  obtain ⟨m, rfl, hm⟩ := sh_c hs
  refine T_zastore hd (mFz_get hm) (nI_in2 hj hn) ?_
  rw [nI_clamp (by omega)]
  have e9 : (.inl (2, n, .inl (upd (σ (m + 3)) j (vp_nar .boolean x))) : va_E) = mCell (upR σ (m + 3) (upd (σ (m + 3)) j (vp_nar .boolean x))) (m + 3) (.inr (.inl (2, n))) := by
    simp only [mCell, upR_s]
    rfl
  rw [e9, mFz_set hm]
  exact k
theorem F_copy {i a b n0 n1 sp dp n : Nat} (hd : decode I.2.1 pc = .ok (.invokestatic i, 3)) (ho : mOwn.getD I.2.2.2.2.1 "" = I.1.cls) (hf : (mLi I.2.2.2.2.1).lookup i = some 3) (hst : (st.map fun v => v.category).sum ≤ 8) (hs : sh a = some (.inr (.inl (0, n0)))) (hs2 : sh b = some (.inr (.inl (0, n1)))) (hn0 : n0 < 2 ^ 31) (hn1 : n1 < 2 ^ 31) (h4 : sp + n ≤ n0) (h5 : dp + n ≤ n1) (k : mF G I d (pc + 3) lo st (upR σ b (va_cpy (σ a) (σ b) sp dp n)) Q) : mF G I d pc lo (.int (nI n) :: .int (nI dp) :: .ref b :: .int (nI sp) :: .ref a :: st) σ Q := by
  obtain ⟨m, rfl, hm⟩ := sh_c hs
  obtain ⟨m2, rfl, hm2⟩ := sh_c hs2
  refine T_copy hd ho hf hst (mFz_get hm) (mFz_get hm2) (nI_pos (by omega)) (nI_pos (by omega)) (nI_pos (by omega)) (by rw [nI_clamp (by omega), nI_clamp (by omega)]; exact h4) (by rw [nI_clamp (by omega), nI_clamp (by omega)]; exact h5) ?_
  rw [nI_clamp (by omega), nI_clamp (by omega), nI_clamp (by omega)]
  have e9 : (.inl (0, n1, .inl (va_cpy (σ (m + 3)) (σ (m2 + 3)) sp dp n)) : va_E) = mCell (upR σ (m2 + 3) (va_cpy (σ (m + 3)) (σ (m2 + 3)) sp dp n)) (m2 + 3) (.inr (.inl (0, n1))) := by
    simp only [mCell, upR_s]
    rfl
  rw [e9, mFz_set hm2]
  exact k
theorem F_getE {a i ci k0 : Nat} {nest : Bool} {v : Int32} {fs : List (Option Nat)} (hd : decode I.2.1 pc = .ok (.getfield i, 3)) (ho : mOwn.getD I.2.2.2.2.1 "" = I.1.cls) (hf : (mFl I.2.2.2.2.1).lookup i = some (ci, k0, nest)) (hs : sh a = some (.inl (ci, fs))) (hk : fs[k0]? = some none) (he : σ a k0 = v) (k : mF G I d (pc + 3) lo (.int v :: st) σ Q) : mF G I d pc lo (.ref a :: st) σ Q := F_geti hd ho hf hs hk (by rw [he]; exact k)
theorem F_ialdE {a n j : Nat} {v : Int32} (hd : decode I.2.1 pc = .ok (.iaload, 1)) (hs : sh a = some (.inr (.inl (0, n)))) (hn : n < 2 ^ 31) (hj : j < n) (he : σ a j = v) (k : mF G I d (pc + 1) lo (.int v :: st) σ Q) : mF G I d pc lo (.int (nI j) :: .ref a :: st) σ Q := F_iald hd hs hn hj (by rw [he]; exact k)
theorem F_baldE {a n j : Nat} {v : Int32} (hd : decode I.2.1 pc = .ok (.baload, 1)) (hs : sh a = some (.inr (.inl (1, n)))) (hn : n < 2 ^ 31) (hj : j < n) (he : σ a j = v) (k : mF G I d (pc + 1) lo (.int v :: st) σ Q) : mF G I d pc lo (.int (nI j) :: .ref a :: st) σ Q := F_bald hd hs hn hj (by rw [he]; exact k)
theorem F_zaldE {a n j : Nat} {v : Int32} (hd : decode I.2.1 pc = .ok (.baload, 1)) (hs : sh a = some (.inr (.inl (2, n)))) (hn : n < 2 ^ 31) (hj : j < n) (he : σ a j = v) (k : mF G I d (pc + 1) lo (.int v :: st) σ Q) : mF G I d pc lo (.int (nI j) :: .ref a :: st) σ Q := F_zald hd hs hn hj (by rw [he]; exact k)
theorem F_ialdX {a j : Nat} (hd : decode I.2.1 pc = .ok (.iaload, 1)) (ha : a < 3) (hj : j < (mXr G a).1) (hn : (mXr G a).1 < 2 ^ 31) (k : mF G I d (pc + 1) lo (.int ((mXr G a).2 j) :: st) σ Q) : mF G I d pc lo (.int (nI j) :: .ref a :: st) σ Q := T_ialoadX hd ha (nI_in2 hj hn) (by rw [nI_clamp (by omega)]; exact k)
theorem F_alenX (hd : decode I.2.1 pc = .ok (.arraylength, 1)) (k : mF G I d (pc + 1) lo (.int (nI (gN G)) :: st) σ Q) : mF G I d pc lo (.ref 2 :: st) σ Q := T_alenX hd k
theorem F_min {i : Nat} {x y : Int32} (hd : decode I.2.1 pc = .ok (.invokestatic i, 3)) (ho : mOwn.getD I.2.2.2.2.1 "" = I.1.cls) (hf : (mLi I.2.2.2.2.1).lookup i = some 1) (hst : (st.map fun v => v.category).sum ≤ 8) (k : mF G I d (pc + 3) lo (.int (if y < x then y else x) :: st) σ Q) : mF G I d pc lo (.int y :: .int x :: st) σ Q := T_min hd ho hf hst (Nat.le_refl 0) (Nat.le_refl 0) k
theorem F_max {i : Nat} {x y : Int32} (hd : decode I.2.1 pc = .ok (.invokestatic i, 3)) (ho : mOwn.getD I.2.2.2.2.1 "" = I.1.cls) (hf : (mLi I.2.2.2.2.1).lookup i = some 2) (hst : (st.map fun v => v.category).sum ≤ 8) (k : mF G I d (pc + 3) lo (.int (if x < y then y else x) :: st) σ Q) : mF G I d pc lo (.int y :: .int x :: st) σ Q := T_max hd ho hf hst (Nat.le_refl 0) (Nat.le_refl 0) k
theorem F_iret {v : Int32} (hd : decode I.2.1 pc = .ok (.ireturn, 1)) (hr : I.2.2.2.1 = some .int) (hq : Q (some (.int v)) σ) : mF G I d pc lo [.int v] σ Q := T_iret hd hr (Nat.le_refl 0) (Nat.le_refl 0) ⟨rfl, σ, rfl, hq⟩
theorem F_zret {v : Int32} (hd : decode I.2.1 pc = .ok (.ireturn, 1)) (hr : I.2.2.2.1 = some .boolean) (hv : v = 0 ∨ v = 1) (hq : Q (some (.int v)) σ) : mF G I d pc lo [.int v] σ Q := T_zret hd hr hv (Nat.le_refl 0) (Nat.le_refl 0) ⟨rfl, σ, rfl, hq⟩
theorem F_vret (hd : decode I.2.1 pc = .ok (.return_, 1)) (hr : I.2.2.2.1 = none) (hq : Q none σ) : mF G I d pc lo [] σ Q := T_vret hd hr (Nat.le_refl 0) (Nat.le_refl 0) ⟨rfl, σ, rfl, hq⟩
theorem F_callV {a ci kd i d1 : Nat} {as : List Value} {J : mI} {fs : List (Option Nat)} {r0 : vw_C} {r : Option Value} {σ1 : mS} (hC : mV G J d1 (.ref a :: as) σ r σ1) (hd : decode I.2.1 pc = .ok (.invokevirtual i, 3)) (ho : mOwn.getD I.2.2.2.2.1 "" = I.1.cls) (hf : (mCa I.2.2.2.2.1).lookup i = some (kd, J)) (hkd : kd = 1 ∨ kd = 4) (hs : sh a = some (.inl (ci, fs))) (hci : mCl[ci]? = some r0) (hcl : r0.1 = J.1.cls) (hnp : as.length = J.2.2.2.2.2) (hml : as.length + 1 ≤ J.2.2.1 ∧ J.2.2.1 ≤ 40) (hcat : ∀ v ∈ as, v.category = 1) (hst : (st.map fun v => v.category).sum ≤ 8) (hdd : d1 < d) (k : mF G I d (pc + 3) lo (r.toList ++ st) σ1 Q) : mF G I d pc lo (as.reverse ++ .ref a :: st) σ Q := by
  obtain ⟨n, rfl, hn⟩ := sh_c hs
  refine T_callV hd ho hf hkd (mFz_get hn) hci hcl hnp hml hcat hst hdd (Nat.le_refl 0) (Nat.le_refl 0) hC ?_ ?_
  · intro r1 μ1 ex1 h1 h2
    rw [h1.1] at h2
    cases h2
  · intro r1 μ1 ex1 h1
    obtain ⟨h2, σ2, h3, h4, h5⟩ := h1
    rw [h2, h3, h4, h5]
    exact k
theorem F_callS {i d1 : Nat} {as : List Value} {J : mI} {r : Option Value} {σ1 : mS} (hC : mV G J d1 as σ r σ1) (hd : decode I.2.1 pc = .ok (.invokestatic i, 3)) (ho : mOwn.getD I.2.2.2.2.1 "" = I.1.cls) (hf : (mCa I.2.2.2.2.1).lookup i = some (0, J)) (hnp : as.length = J.2.2.2.2.2) (hml : as.length ≤ J.2.2.1 ∧ J.2.2.1 ≤ 40) (hcat : ∀ v ∈ as, v.category = 1) (hst : (st.map fun v => v.category).sum ≤ 8) (hdd : d1 < d) (k : mF G I d (pc + 3) lo (r.toList ++ st) σ1 Q) : mF G I d pc lo (as.reverse ++ st) σ Q := by
  refine T_callS hd ho hf hnp hml hcat hst hdd (Nat.le_refl 0) (Nat.le_refl 0) hC ?_ ?_
  · intro r1 μ1 ex1 h1 h2
    rw [h1.1] at h2
    cases h2
  · intro r1 μ1 ex1 h1
    obtain ⟨h2, σ2, h3, h4, h5⟩ := h1
    rw [h2, h3, h4, h5]
    exact k
theorem F_cV0i {a ci kd i d1 : Nat}  {J : mI} {fs : List (Option Nat)} {r0 : vw_C} {v : Value} {σ1 : mS} (hC : mV G J d1 (.ref a :: []) σ (some v) σ1) (hd : decode I.2.1 pc = .ok (.invokevirtual i, 3)) (ho : mOwn.getD I.2.2.2.2.1 "" = I.1.cls) (hf : (mCa I.2.2.2.2.1).lookup i = some (kd, J)) (hkd : kd = 1 ∨ kd = 4) (hs : sh a = some (.inl (ci, fs))) (hci : mCl[ci]? = some r0) (hcl : r0.1 = J.1.cls) (hnp : 0 = J.2.2.2.2.2) (hml : 0 + 1 ≤ J.2.2.1 ∧ J.2.2.1 ≤ 40) (hst : (st.map fun v => v.category).sum ≤ 8) (hdd : d1 < d) (k : mF G I d (pc + 3) lo (v :: st) σ1 Q) : mF G I d pc lo (.ref a :: st) σ Q := F_callV hC hd ho hf hkd hs hci hcl hnp hml (by intro v hv; cases hv) hst hdd k
theorem F_cV0v {a ci kd i d1 : Nat}  {J : mI} {fs : List (Option Nat)} {r0 : vw_C}  {σ1 : mS} (hC : mV G J d1 (.ref a :: []) σ none σ1) (hd : decode I.2.1 pc = .ok (.invokevirtual i, 3)) (ho : mOwn.getD I.2.2.2.2.1 "" = I.1.cls) (hf : (mCa I.2.2.2.2.1).lookup i = some (kd, J)) (hkd : kd = 1 ∨ kd = 4) (hs : sh a = some (.inl (ci, fs))) (hci : mCl[ci]? = some r0) (hcl : r0.1 = J.1.cls) (hnp : 0 = J.2.2.2.2.2) (hml : 0 + 1 ≤ J.2.2.1 ∧ J.2.2.1 ≤ 40) (hst : (st.map fun v => v.category).sum ≤ 8) (hdd : d1 < d) (k : mF G I d (pc + 3) lo st σ1 Q) : mF G I d pc lo (.ref a :: st) σ Q := F_callV hC hd ho hf hkd hs hci hcl hnp hml (by intro v hv; cases hv) hst hdd k
theorem F_cV1i {a ci kd i d1 : Nat} {x1 : Int32} {J : mI} {fs : List (Option Nat)} {r0 : vw_C} {v : Value} {σ1 : mS} (hC : mV G J d1 (.ref a :: [.int x1]) σ (some v) σ1) (hd : decode I.2.1 pc = .ok (.invokevirtual i, 3)) (ho : mOwn.getD I.2.2.2.2.1 "" = I.1.cls) (hf : (mCa I.2.2.2.2.1).lookup i = some (kd, J)) (hkd : kd = 1 ∨ kd = 4) (hs : sh a = some (.inl (ci, fs))) (hci : mCl[ci]? = some r0) (hcl : r0.1 = J.1.cls) (hnp : 1 = J.2.2.2.2.2) (hml : 1 + 1 ≤ J.2.2.1 ∧ J.2.2.1 ≤ 40) (hst : (st.map fun v => v.category).sum ≤ 8) (hdd : d1 < d) (k : mF G I d (pc + 3) lo (v :: st) σ1 Q) : mF G I d pc lo (.int x1 :: .ref a :: st) σ Q := F_callV hC hd ho hf hkd hs hci hcl hnp hml (by intro v hv; simp at hv; rw [hv]; rfl) hst hdd k
theorem F_cV1v {a ci kd i d1 : Nat} {x1 : Int32} {J : mI} {fs : List (Option Nat)} {r0 : vw_C}  {σ1 : mS} (hC : mV G J d1 (.ref a :: [.int x1]) σ none σ1) (hd : decode I.2.1 pc = .ok (.invokevirtual i, 3)) (ho : mOwn.getD I.2.2.2.2.1 "" = I.1.cls) (hf : (mCa I.2.2.2.2.1).lookup i = some (kd, J)) (hkd : kd = 1 ∨ kd = 4) (hs : sh a = some (.inl (ci, fs))) (hci : mCl[ci]? = some r0) (hcl : r0.1 = J.1.cls) (hnp : 1 = J.2.2.2.2.2) (hml : 1 + 1 ≤ J.2.2.1 ∧ J.2.2.1 ≤ 40) (hst : (st.map fun v => v.category).sum ≤ 8) (hdd : d1 < d) (k : mF G I d (pc + 3) lo st σ1 Q) : mF G I d pc lo (.int x1 :: .ref a :: st) σ Q := F_callV hC hd ho hf hkd hs hci hcl hnp hml (by intro v hv; simp at hv; rw [hv]; rfl) hst hdd k
theorem F_cV2i {a ci kd i d1 : Nat} {x1 x2 : Int32} {J : mI} {fs : List (Option Nat)} {r0 : vw_C} {v : Value} {σ1 : mS} (hC : mV G J d1 (.ref a :: [.int x1, .int x2]) σ (some v) σ1) (hd : decode I.2.1 pc = .ok (.invokevirtual i, 3)) (ho : mOwn.getD I.2.2.2.2.1 "" = I.1.cls) (hf : (mCa I.2.2.2.2.1).lookup i = some (kd, J)) (hkd : kd = 1 ∨ kd = 4) (hs : sh a = some (.inl (ci, fs))) (hci : mCl[ci]? = some r0) (hcl : r0.1 = J.1.cls) (hnp : 2 = J.2.2.2.2.2) (hml : 2 + 1 ≤ J.2.2.1 ∧ J.2.2.1 ≤ 40) (hst : (st.map fun v => v.category).sum ≤ 8) (hdd : d1 < d) (k : mF G I d (pc + 3) lo (v :: st) σ1 Q) : mF G I d pc lo (.int x2 :: .int x1 :: .ref a :: st) σ Q := F_callV hC hd ho hf hkd hs hci hcl hnp hml (by intro v hv; simp at hv; rcases hv with rfl | rfl <;> rfl) hst hdd k
theorem F_cV2v {a ci kd i d1 : Nat} {x1 x2 : Int32} {J : mI} {fs : List (Option Nat)} {r0 : vw_C}  {σ1 : mS} (hC : mV G J d1 (.ref a :: [.int x1, .int x2]) σ none σ1) (hd : decode I.2.1 pc = .ok (.invokevirtual i, 3)) (ho : mOwn.getD I.2.2.2.2.1 "" = I.1.cls) (hf : (mCa I.2.2.2.2.1).lookup i = some (kd, J)) (hkd : kd = 1 ∨ kd = 4) (hs : sh a = some (.inl (ci, fs))) (hci : mCl[ci]? = some r0) (hcl : r0.1 = J.1.cls) (hnp : 2 = J.2.2.2.2.2) (hml : 2 + 1 ≤ J.2.2.1 ∧ J.2.2.1 ≤ 40) (hst : (st.map fun v => v.category).sum ≤ 8) (hdd : d1 < d) (k : mF G I d (pc + 3) lo st σ1 Q) : mF G I d pc lo (.int x2 :: .int x1 :: .ref a :: st) σ Q := F_callV hC hd ho hf hkd hs hci hcl hnp hml (by intro v hv; simp at hv; rcases hv with rfl | rfl <;> rfl) hst hdd k
theorem F_cV3i {a ci kd i d1 : Nat} {x1 x2 x3 : Int32} {J : mI} {fs : List (Option Nat)} {r0 : vw_C} {v : Value} {σ1 : mS} (hC : mV G J d1 (.ref a :: [.int x1, .int x2, .int x3]) σ (some v) σ1) (hd : decode I.2.1 pc = .ok (.invokevirtual i, 3)) (ho : mOwn.getD I.2.2.2.2.1 "" = I.1.cls) (hf : (mCa I.2.2.2.2.1).lookup i = some (kd, J)) (hkd : kd = 1 ∨ kd = 4) (hs : sh a = some (.inl (ci, fs))) (hci : mCl[ci]? = some r0) (hcl : r0.1 = J.1.cls) (hnp : 3 = J.2.2.2.2.2) (hml : 3 + 1 ≤ J.2.2.1 ∧ J.2.2.1 ≤ 40) (hst : (st.map fun v => v.category).sum ≤ 8) (hdd : d1 < d) (k : mF G I d (pc + 3) lo (v :: st) σ1 Q) : mF G I d pc lo (.int x3 :: .int x2 :: .int x1 :: .ref a :: st) σ Q := F_callV hC hd ho hf hkd hs hci hcl hnp hml (by intro v hv; simp at hv; rcases hv with rfl | rfl | rfl <;> rfl) hst hdd k
theorem F_cV3v {a ci kd i d1 : Nat} {x1 x2 x3 : Int32} {J : mI} {fs : List (Option Nat)} {r0 : vw_C}  {σ1 : mS} (hC : mV G J d1 (.ref a :: [.int x1, .int x2, .int x3]) σ none σ1) (hd : decode I.2.1 pc = .ok (.invokevirtual i, 3)) (ho : mOwn.getD I.2.2.2.2.1 "" = I.1.cls) (hf : (mCa I.2.2.2.2.1).lookup i = some (kd, J)) (hkd : kd = 1 ∨ kd = 4) (hs : sh a = some (.inl (ci, fs))) (hci : mCl[ci]? = some r0) (hcl : r0.1 = J.1.cls) (hnp : 3 = J.2.2.2.2.2) (hml : 3 + 1 ≤ J.2.2.1 ∧ J.2.2.1 ≤ 40) (hst : (st.map fun v => v.category).sum ≤ 8) (hdd : d1 < d) (k : mF G I d (pc + 3) lo st σ1 Q) : mF G I d pc lo (.int x3 :: .int x2 :: .int x1 :: .ref a :: st) σ Q := F_callV hC hd ho hf hkd hs hci hcl hnp hml (by intro v hv; simp at hv; rcases hv with rfl | rfl | rfl <;> rfl) hst hdd k
theorem F_cV4i {a ci kd i d1 : Nat} {x1 x2 x3 x4 : Int32} {J : mI} {fs : List (Option Nat)} {r0 : vw_C} {v : Value} {σ1 : mS} (hC : mV G J d1 (.ref a :: [.int x1, .int x2, .int x3, .int x4]) σ (some v) σ1) (hd : decode I.2.1 pc = .ok (.invokevirtual i, 3)) (ho : mOwn.getD I.2.2.2.2.1 "" = I.1.cls) (hf : (mCa I.2.2.2.2.1).lookup i = some (kd, J)) (hkd : kd = 1 ∨ kd = 4) (hs : sh a = some (.inl (ci, fs))) (hci : mCl[ci]? = some r0) (hcl : r0.1 = J.1.cls) (hnp : 4 = J.2.2.2.2.2) (hml : 4 + 1 ≤ J.2.2.1 ∧ J.2.2.1 ≤ 40) (hst : (st.map fun v => v.category).sum ≤ 8) (hdd : d1 < d) (k : mF G I d (pc + 3) lo (v :: st) σ1 Q) : mF G I d pc lo (.int x4 :: .int x3 :: .int x2 :: .int x1 :: .ref a :: st) σ Q := F_callV hC hd ho hf hkd hs hci hcl hnp hml (by intro v hv; simp at hv; rcases hv with rfl | rfl | rfl | rfl <;> rfl) hst hdd k
theorem F_cV4v {a ci kd i d1 : Nat} {x1 x2 x3 x4 : Int32} {J : mI} {fs : List (Option Nat)} {r0 : vw_C}  {σ1 : mS} (hC : mV G J d1 (.ref a :: [.int x1, .int x2, .int x3, .int x4]) σ none σ1) (hd : decode I.2.1 pc = .ok (.invokevirtual i, 3)) (ho : mOwn.getD I.2.2.2.2.1 "" = I.1.cls) (hf : (mCa I.2.2.2.2.1).lookup i = some (kd, J)) (hkd : kd = 1 ∨ kd = 4) (hs : sh a = some (.inl (ci, fs))) (hci : mCl[ci]? = some r0) (hcl : r0.1 = J.1.cls) (hnp : 4 = J.2.2.2.2.2) (hml : 4 + 1 ≤ J.2.2.1 ∧ J.2.2.1 ≤ 40) (hst : (st.map fun v => v.category).sum ≤ 8) (hdd : d1 < d) (k : mF G I d (pc + 3) lo st σ1 Q) : mF G I d pc lo (.int x4 :: .int x3 :: .int x2 :: .int x1 :: .ref a :: st) σ Q := F_callV hC hd ho hf hkd hs hci hcl hnp hml (by intro v hv; simp at hv; rcases hv with rfl | rfl | rfl | rfl <;> rfl) hst hdd k
theorem F_cV5i {a ci kd i d1 : Nat} {x1 x2 x3 x4 x5 : Int32} {J : mI} {fs : List (Option Nat)} {r0 : vw_C} {v : Value} {σ1 : mS} (hC : mV G J d1 (.ref a :: [.int x1, .int x2, .int x3, .int x4, .int x5]) σ (some v) σ1) (hd : decode I.2.1 pc = .ok (.invokevirtual i, 3)) (ho : mOwn.getD I.2.2.2.2.1 "" = I.1.cls) (hf : (mCa I.2.2.2.2.1).lookup i = some (kd, J)) (hkd : kd = 1 ∨ kd = 4) (hs : sh a = some (.inl (ci, fs))) (hci : mCl[ci]? = some r0) (hcl : r0.1 = J.1.cls) (hnp : 5 = J.2.2.2.2.2) (hml : 5 + 1 ≤ J.2.2.1 ∧ J.2.2.1 ≤ 40) (hst : (st.map fun v => v.category).sum ≤ 8) (hdd : d1 < d) (k : mF G I d (pc + 3) lo (v :: st) σ1 Q) : mF G I d pc lo (.int x5 :: .int x4 :: .int x3 :: .int x2 :: .int x1 :: .ref a :: st) σ Q := F_callV hC hd ho hf hkd hs hci hcl hnp hml (by intro v hv; simp at hv; rcases hv with rfl | rfl | rfl | rfl | rfl <;> rfl) hst hdd k
theorem F_cV5v {a ci kd i d1 : Nat} {x1 x2 x3 x4 x5 : Int32} {J : mI} {fs : List (Option Nat)} {r0 : vw_C}  {σ1 : mS} (hC : mV G J d1 (.ref a :: [.int x1, .int x2, .int x3, .int x4, .int x5]) σ none σ1) (hd : decode I.2.1 pc = .ok (.invokevirtual i, 3)) (ho : mOwn.getD I.2.2.2.2.1 "" = I.1.cls) (hf : (mCa I.2.2.2.2.1).lookup i = some (kd, J)) (hkd : kd = 1 ∨ kd = 4) (hs : sh a = some (.inl (ci, fs))) (hci : mCl[ci]? = some r0) (hcl : r0.1 = J.1.cls) (hnp : 5 = J.2.2.2.2.2) (hml : 5 + 1 ≤ J.2.2.1 ∧ J.2.2.1 ≤ 40) (hst : (st.map fun v => v.category).sum ≤ 8) (hdd : d1 < d) (k : mF G I d (pc + 3) lo st σ1 Q) : mF G I d pc lo (.int x5 :: .int x4 :: .int x3 :: .int x2 :: .int x1 :: .ref a :: st) σ Q := F_callV hC hd ho hf hkd hs hci hcl hnp hml (by intro v hv; simp at hv; rcases hv with rfl | rfl | rfl | rfl | rfl <;> rfl) hst hdd k
theorem F_cS1i {i d1 : Nat} {x1 : Int32} {J : mI} {v : Value} {σ1 : mS} (hC : mV G J d1 [.int x1] σ (some v) σ1) (hd : decode I.2.1 pc = .ok (.invokestatic i, 3)) (ho : mOwn.getD I.2.2.2.2.1 "" = I.1.cls) (hf : (mCa I.2.2.2.2.1).lookup i = some (0, J)) (hnp : 1 = J.2.2.2.2.2) (hml : 1 ≤ J.2.2.1 ∧ J.2.2.1 ≤ 40) (hst : (st.map fun v => v.category).sum ≤ 8) (hdd : d1 < d) (k : mF G I d (pc + 3) lo (v :: st) σ1 Q) : mF G I d pc lo (.int x1 :: st) σ Q := F_callS hC hd ho hf hnp hml (by intro v hv; simp at hv; rw [hv]; rfl) hst hdd k
theorem F_cS2i {i d1 : Nat} {x1 x2 : Int32} {J : mI} {v : Value} {σ1 : mS} (hC : mV G J d1 [.int x1, .int x2] σ (some v) σ1) (hd : decode I.2.1 pc = .ok (.invokestatic i, 3)) (ho : mOwn.getD I.2.2.2.2.1 "" = I.1.cls) (hf : (mCa I.2.2.2.2.1).lookup i = some (0, J)) (hnp : 2 = J.2.2.2.2.2) (hml : 2 ≤ J.2.2.1 ∧ J.2.2.1 ≤ 40) (hst : (st.map fun v => v.category).sum ≤ 8) (hdd : d1 < d) (k : mF G I d (pc + 3) lo (v :: st) σ1 Q) : mF G I d pc lo (.int x2 :: .int x1 :: st) σ Q := F_callS hC hd ho hf hnp hml (by intro v hv; simp at hv; rcases hv with rfl | rfl <;> rfl) hst hdd k
theorem F_cS3i {i d1 : Nat} {x1 x2 x3 : Int32} {J : mI} {v : Value} {σ1 : mS} (hC : mV G J d1 [.int x1, .int x2, .int x3] σ (some v) σ1) (hd : decode I.2.1 pc = .ok (.invokestatic i, 3)) (ho : mOwn.getD I.2.2.2.2.1 "" = I.1.cls) (hf : (mCa I.2.2.2.2.1).lookup i = some (0, J)) (hnp : 3 = J.2.2.2.2.2) (hml : 3 ≤ J.2.2.1 ∧ J.2.2.1 ≤ 40) (hst : (st.map fun v => v.category).sum ≤ 8) (hdd : d1 < d) (k : mF G I d (pc + 3) lo (v :: st) σ1 Q) : mF G I d pc lo (.int x3 :: .int x2 :: .int x1 :: st) σ Q := F_callS hC hd ho hf hnp hml (by intro v hv; simp at hv; rcases hv with rfl | rfl | rfl <;> rfl) hst hdd k
theorem F_cS4i {i d1 : Nat} {x1 x2 x3 x4 : Int32} {J : mI} {v : Value} {σ1 : mS} (hC : mV G J d1 [.int x1, .int x2, .int x3, .int x4] σ (some v) σ1) (hd : decode I.2.1 pc = .ok (.invokestatic i, 3)) (ho : mOwn.getD I.2.2.2.2.1 "" = I.1.cls) (hf : (mCa I.2.2.2.2.1).lookup i = some (0, J)) (hnp : 4 = J.2.2.2.2.2) (hml : 4 ≤ J.2.2.1 ∧ J.2.2.1 ≤ 40) (hst : (st.map fun v => v.category).sum ≤ 8) (hdd : d1 < d) (k : mF G I d (pc + 3) lo (v :: st) σ1 Q) : mF G I d pc lo (.int x4 :: .int x3 :: .int x2 :: .int x1 :: st) σ Q := F_callS hC hd ho hf hnp hml (by intro v hv; simp at hv; rcases hv with rfl | rfl | rfl | rfl <;> rfl) hst hdd k
theorem F_cS5i {i d1 : Nat} {x1 x2 x3 x4 x5 : Int32} {J : mI} {v : Value} {σ1 : mS} (hC : mV G J d1 [.int x1, .int x2, .int x3, .int x4, .int x5] σ (some v) σ1) (hd : decode I.2.1 pc = .ok (.invokestatic i, 3)) (ho : mOwn.getD I.2.2.2.2.1 "" = I.1.cls) (hf : (mCa I.2.2.2.2.1).lookup i = some (0, J)) (hnp : 5 = J.2.2.2.2.2) (hml : 5 ≤ J.2.2.1 ∧ J.2.2.1 ≤ 40) (hst : (st.map fun v => v.category).sum ≤ 8) (hdd : d1 < d) (k : mF G I d (pc + 3) lo (v :: st) σ1 Q) : mF G I d pc lo (.int x5 :: .int x4 :: .int x3 :: .int x2 :: .int x1 :: st) σ Q := F_callS hC hd ho hf hnp hml (by intro v hv; simp at hv; rcases hv with rfl | rfl | rfl | rfl | rfl <;> rfl) hst hdd k
theorem F_cS6i {i d1 : Nat} {x1 x2 x3 x4 x5 x6 : Int32} {J : mI} {v : Value} {σ1 : mS} (hC : mV G J d1 [.int x1, .int x2, .int x3, .int x4, .int x5, .int x6] σ (some v) σ1) (hd : decode I.2.1 pc = .ok (.invokestatic i, 3)) (ho : mOwn.getD I.2.2.2.2.1 "" = I.1.cls) (hf : (mCa I.2.2.2.2.1).lookup i = some (0, J)) (hnp : 6 = J.2.2.2.2.2) (hml : 6 ≤ J.2.2.1 ∧ J.2.2.1 ≤ 40) (hst : (st.map fun v => v.category).sum ≤ 8) (hdd : d1 < d) (k : mF G I d (pc + 3) lo (v :: st) σ1 Q) : mF G I d pc lo (.int x6 :: .int x5 :: .int x4 :: .int x3 :: .int x2 :: .int x1 :: st) σ Q := F_callS hC hd ho hf hnp hml (by intro v hv; simp at hv; rcases hv with rfl | rfl | rfl | rfl | rfl | rfl <;> rfl) hst hdd k
end FR
theorem mV_of {G : mG} {J : mI} {d : Nat} {as : List Value} {σ σ1 : mS} {r : Option Value} (h : ∀ Q : Option Value → mS → Prop, Q r σ1 → mF G J d 0 (mLo J as) [] σ Q) : mV G J d as σ r σ1 := h _ ⟨rfl, rfl⟩
end
section

/-! ===== truth values, ends ===== -/
def bI (b : Bool) : Int32 := if b = true then 1 else 0
theorem bI_t : bI true = nI 1 := rfl
theorem bI_f : bI false = nI 0 := rfl
theorem bI_01 (b : Bool) : bI b = 0 ∨ bI b = 1 := by cases b <;> simp [bI]
theorem bI_0 {b : Bool} : bI b = 0 ↔ b = false := by cases b <;> simp [bI]
section EN
variable {G : mG} {I : mI} {d pc : Nat} {lo : List (Option Value)} {st : List Value} {σ σ2 : mS} {Q : Option Value → mS → Prop}
theorem F_if_eqB {b : Bool} {off : Int} {tgt : Nat} (hd : decode I.2.1 pc = .ok (.ifCond .eq off, 3)) (ht : (pc : Int) + off = (tgt : Int)) (kt : b = false → mF G I d tgt lo st σ Q) (kf : b = true → mF G I d (pc + 3) lo st σ Q) : mF G I d pc lo (.int (bI b) :: st) σ Q := F_if_eq hd ht (fun h => kt (bI_0.mp h)) (fun h => kf (by cases b with | true => rfl | false => exact absurd rfl h))
theorem F_if_neB {b : Bool} {off : Int} {tgt : Nat} (hd : decode I.2.1 pc = .ok (.ifCond .ne off, 3)) (ht : (pc : Int) + off = (tgt : Int)) (kt : b = true → mF G I d tgt lo st σ Q) (kf : b = false → mF G I d (pc + 3) lo st σ Q) : mF G I d pc lo (.int (bI b) :: st) σ Q := F_if_ne hd ht (fun h => kt (by cases b with | true => rfl | false => exact absurd rfl h)) (fun h => kf (bI_0.mp h))
theorem Qr {v w : Int32} (hQ : Q (some (.int v)) σ) (h : w = v) (hs : σ2 = σ) : Q (some (.int w)) σ2 := by rw [h, hs]; exact hQ
theorem Qb1 {b : Bool} (hQ : Q (some (.int (bI b))) σ) (h : b = true) : Q (some (.int (nI 1))) σ := by rw [h] at hQ; exact hQ
theorem Qb0 {b : Bool} (hQ : Q (some (.int (bI b))) σ) (h : b = false) : Q (some (.int (nI 0))) σ := by rw [h] at hQ; exact hQ
theorem Qn {r : Option Value} (hQ : Q r σ) (hs : σ2 = σ) : Q r σ2 := by rw [hs]; exact hQ
theorem Qv {r r2 : Option Value} (hQ : Q r σ) (hr : r2 = r) (hs : σ2 = σ) : Q r2 σ2 := by rw [hr, hs]; exact hQ
end EN
def inR (v a b : Int32) : Bool := decide (a ≤ v) && decide (v ≤ b)
theorem nI_ex {x : Int32} {n : Nat} (hn : n < 2 ^ 31) (h0 : nI 0 ≤ x) (h1 : x ≤ nI n) : ∃ j, j ≤ n ∧ x = nI j := by
  refine nI_of2 (M := nI n) (nI_toInt hn) ?_ h1
  rw [Int32.not_lt]; exact h0
theorem inR_n {v : Int32} {n : Nat} (hn : n < 2 ^ 31) (h : inR v (nI 0) (nI n) = true) : ∃ j, j ≤ n ∧ v = nI j := by
  simp only [inR, Bool.and_eq_true, decide_eq_true_eq] at h
  exact nI_ex hn h.1 h.2
theorem inR_nI {a b j : Nat} (hb : b < 2 ^ 31) (ha : a < 2 ^ 31) (hj : j < 2 ^ 31) : inR (nI j) (nI a) (nI b) = (decide (a ≤ j) && decide (j ≤ b)) := by
  simp only [inR]
  rw [decide_eq_decide.mpr (nI_le_iff ha hj), decide_eq_decide.mpr (nI_le_iff hj hb)]
theorem lt_nI {x : Int32} {n : Nat} (hn : n + 1 < 2 ^ 31) : x < nI (n + 1) ↔ x ≤ nI n := by
  rw [Int32.lt_iff_toInt_lt, Int32.le_iff_toInt_le, nI_toInt hn, nI_toInt (by omega)]; omega

section CR
variable {G : mG} {I : mI} {d pc : Nat} {lo : List (Option Value)} {st : List Value} {σ : mS} {Q : Option Value → mS → Prop}
theorem F_cV_r_v {a ci kd i d1 : Nat} {x1 : Nat} {J : mI} {fs : List (Option Nat)} {r0 : vw_C}  {σ1 : mS} (hC : mV G J d1 (.ref a :: [.ref x1]) σ none σ1) (hd : decode I.2.1 pc = .ok (.invokevirtual i, 3)) (ho : mOwn.getD I.2.2.2.2.1 "" = I.1.cls) (hf : (mCa I.2.2.2.2.1).lookup i = some (kd, J)) (hkd : kd = 1 ∨ kd = 4) (hs : sh a = some (.inl (ci, fs))) (hci : mCl[ci]? = some r0) (hcl : r0.1 = J.1.cls) (hnp : 1 = J.2.2.2.2.2) (hml : 1 + 1 ≤ J.2.2.1 ∧ J.2.2.1 ≤ 40) (hst : (st.map fun v => v.category).sum ≤ 8) (hdd : d1 < d) (k : mF G I d (pc + 3) lo st σ1 Q) : mF G I d pc lo (.ref x1 :: .ref a :: st) σ Q := F_callV hC hd ho hf hkd hs hci hcl hnp hml (by intro v hv; simp at hv; rw [hv]; rfl) hst hdd k
theorem F_cV_r_i {a ci kd i d1 : Nat} {x1 : Nat} {J : mI} {fs : List (Option Nat)} {r0 : vw_C} {v : Value} {σ1 : mS} (hC : mV G J d1 (.ref a :: [.ref x1]) σ (some v) σ1) (hd : decode I.2.1 pc = .ok (.invokevirtual i, 3)) (ho : mOwn.getD I.2.2.2.2.1 "" = I.1.cls) (hf : (mCa I.2.2.2.2.1).lookup i = some (kd, J)) (hkd : kd = 1 ∨ kd = 4) (hs : sh a = some (.inl (ci, fs))) (hci : mCl[ci]? = some r0) (hcl : r0.1 = J.1.cls) (hnp : 1 = J.2.2.2.2.2) (hml : 1 + 1 ≤ J.2.2.1 ∧ J.2.2.1 ≤ 40) (hst : (st.map fun v => v.category).sum ≤ 8) (hdd : d1 < d) (k : mF G I d (pc + 3) lo (v :: st) σ1 Q) : mF G I d pc lo (.ref x1 :: .ref a :: st) σ Q := F_callV hC hd ho hf hkd hs hci hcl hnp hml (by intro v hv; simp at hv; rw [hv]; rfl) hst hdd k
theorem F_cV_riii_v {a ci kd i d1 : Nat} {x1 : Nat} {x2 : Int32} {x3 : Int32} {x4 : Int32} {J : mI} {fs : List (Option Nat)} {r0 : vw_C}  {σ1 : mS} (hC : mV G J d1 (.ref a :: [.ref x1, .int x2, .int x3, .int x4]) σ none σ1) (hd : decode I.2.1 pc = .ok (.invokevirtual i, 3)) (ho : mOwn.getD I.2.2.2.2.1 "" = I.1.cls) (hf : (mCa I.2.2.2.2.1).lookup i = some (kd, J)) (hkd : kd = 1 ∨ kd = 4) (hs : sh a = some (.inl (ci, fs))) (hci : mCl[ci]? = some r0) (hcl : r0.1 = J.1.cls) (hnp : 4 = J.2.2.2.2.2) (hml : 4 + 1 ≤ J.2.2.1 ∧ J.2.2.1 ≤ 40) (hst : (st.map fun v => v.category).sum ≤ 8) (hdd : d1 < d) (k : mF G I d (pc + 3) lo st σ1 Q) : mF G I d pc lo (.int x4 :: .int x3 :: .int x2 :: .ref x1 :: .ref a :: st) σ Q := F_callV hC hd ho hf hkd hs hci hcl hnp hml (by intro v hv; simp at hv; rcases hv with rfl | rfl | rfl | rfl <;> rfl) hst hdd k
end CR
theorem cpy0 (f g : Nat → Int32) (sp dp : Nat) : va_cpy f g sp dp 0 = g := by
  funext j; simp only [va_cpy]; rw [if_neg (by omega)]
theorem cpyS (f g : Nat → Int32) (sp dp n : Nat) : upd (va_cpy f g sp dp n) (dp + n) (f (sp + n)) = va_cpy f g sp dp (n + 1) := by
  funext j; simp only [va_cpy, upd]
  by_cases h1 : j = dp + n
  · rw [if_pos h1, if_pos (by omega)]; congr 1; omega
  · rw [if_neg h1]
    by_cases h2 : dp ≤ j ∧ j < dp + n
    · rw [if_pos h2, if_pos (by omega)]
    · rw [if_neg h2, if_neg (by omega)]
end
section
/-! ===== Strings: the rules, the library's own members ===== -/
def RJ0 : String := "java/lang/String"
def RJ1 : String := "java/lang/StringLatin1"
def RJ3 : String := "jdk/internal/util/Preconditions"
abbrev cJ0_length : ByteArray := prog_14_method_54_code
def yJ0_length : MethodName := ⟨RJ0, "length", "()I"⟩
theorem dJ0_length_0 : decode cJ0_length 0 = .ok (.aload_n 0, 1) := by decide +kernel
theorem dJ0_length_1 : decode cJ0_length 1 = .ok (.getfield 9, 3) := by decide +kernel
theorem dJ0_length_4 : decode cJ0_length 4 = .ok (.arraylength, 1) := by decide +kernel
theorem dJ0_length_5 : decode cJ0_length 5 = .ok (.aload_n 0, 1) := by decide +kernel
theorem dJ0_length_6 : decode cJ0_length 6 = .ok (.invokevirtual 335, 3) := by decide +kernel
theorem dJ0_length_9 : decode cJ0_length 9 = .ok (.ishr, 1) := by decide +kernel
theorem dJ0_length_10 : decode cJ0_length 10 = .ok (.ireturn, 1) := by decide +kernel
def mJ0_length : mI := (yJ0_length, cJ0_length, 1, some .int, 7, 0)
abbrev cJ0_coder : ByteArray := prog_14_method_152_code
def yJ0_coder : MethodName := ⟨RJ0, "coder", "()B"⟩
theorem dJ0_coder_0 : decode cJ0_coder 0 = .ok (.getstatic 38, 3) := by decide +kernel
theorem dJ0_coder_3 : decode cJ0_coder 3 = .ok (.ifCond .eq 10, 3) := by decide +kernel
theorem dJ0_coder_6 : decode cJ0_coder 6 = .ok (.aload_n 0, 1) := by decide +kernel
theorem dJ0_coder_7 : decode cJ0_coder 7 = .ok (.getfield 15, 3) := by decide +kernel
theorem dJ0_coder_10 : decode cJ0_coder 10 = .ok (.goto 4, 3) := by decide +kernel
theorem dJ0_coder_13 : decode cJ0_coder 13 = .ok (.iconst 1, 1) := by decide +kernel
theorem dJ0_coder_14 : decode cJ0_coder 14 = .ok (.ireturn, 1) := by decide +kernel
def mJ0_coder : mI := (yJ0_coder, cJ0_coder, 1, some .byte, 7, 0)
abbrev cJ0_charAt : ByteArray := prog_14_method_56_code
def yJ0_charAt : MethodName := ⟨RJ0, "charAt", "(I)C"⟩
theorem dJ0_charAt_0 : decode cJ0_charAt 0 = .ok (.aload_n 0, 1) := by decide +kernel
theorem dJ0_charAt_1 : decode cJ0_charAt 1 = .ok (.invokevirtual 492, 3) := by decide +kernel
theorem dJ0_charAt_4 : decode cJ0_charAt 4 = .ok (.ifCond .eq 12, 3) := by decide +kernel
theorem dJ0_charAt_7 : decode cJ0_charAt 7 = .ok (.aload_n 0, 1) := by decide +kernel
theorem dJ0_charAt_8 : decode cJ0_charAt 8 = .ok (.getfield 9, 3) := by decide +kernel
theorem dJ0_charAt_11 : decode cJ0_charAt 11 = .ok (.iload_n 1, 1) := by decide +kernel
theorem dJ0_charAt_12 : decode cJ0_charAt 12 = .ok (.invokestatic 495, 3) := by decide +kernel
theorem dJ0_charAt_15 : decode cJ0_charAt 15 = .ok (.ireturn, 1) := by decide +kernel
theorem dJ0_charAt_16 : decode cJ0_charAt 16 = .ok (.aload_n 0, 1) := by decide +kernel
theorem dJ0_charAt_17 : decode cJ0_charAt 17 = .ok (.getfield 9, 3) := by decide +kernel
theorem dJ0_charAt_20 : decode cJ0_charAt 20 = .ok (.iload_n 1, 1) := by decide +kernel
theorem dJ0_charAt_21 : decode cJ0_charAt 21 = .ok (.invokestatic 498, 3) := by decide +kernel
theorem dJ0_charAt_24 : decode cJ0_charAt 24 = .ok (.ireturn, 1) := by decide +kernel
def mJ0_charAt : mI := (yJ0_charAt, cJ0_charAt, 2, some .char, 7, 1)
abbrev cJ0_isLatin1 : ByteArray := prog_14_method_154_code
def yJ0_isLatin1 : MethodName := ⟨RJ0, "isLatin1", "()Z"⟩
theorem dJ0_isLatin1_0 : decode cJ0_isLatin1 0 = .ok (.getstatic 38, 3) := by decide +kernel
theorem dJ0_isLatin1_3 : decode cJ0_isLatin1 3 = .ok (.ifCond .eq 14, 3) := by decide +kernel
theorem dJ0_isLatin1_6 : decode cJ0_isLatin1 6 = .ok (.aload_n 0, 1) := by decide +kernel
theorem dJ0_isLatin1_7 : decode cJ0_isLatin1 7 = .ok (.getfield 15, 3) := by decide +kernel
theorem dJ0_isLatin1_10 : decode cJ0_isLatin1 10 = .ok (.ifCond .ne 7, 3) := by decide +kernel
theorem dJ0_isLatin1_13 : decode cJ0_isLatin1 13 = .ok (.iconst 1, 1) := by decide +kernel
theorem dJ0_isLatin1_14 : decode cJ0_isLatin1 14 = .ok (.goto 4, 3) := by decide +kernel
theorem dJ0_isLatin1_17 : decode cJ0_isLatin1 17 = .ok (.iconst 0, 1) := by decide +kernel
theorem dJ0_isLatin1_18 : decode cJ0_isLatin1 18 = .ok (.ireturn, 1) := by decide +kernel
def mJ0_isLatin1 : mI := (yJ0_isLatin1, cJ0_isLatin1, 1, some .boolean, 7, 0)
abbrev cJ1_charAt : ByteArray := prog_15_method_2_code
def yJ1_charAt : MethodName := ⟨RJ1, "charAt", "([BI)C"⟩
theorem dJ1_charAt_0 : decode cJ1_charAt 0 = .ok (.iload_n 1, 1) := by decide +kernel
theorem dJ1_charAt_1 : decode cJ1_charAt 1 = .ok (.aload_n 0, 1) := by decide +kernel
theorem dJ1_charAt_2 : decode cJ1_charAt 2 = .ok (.arraylength, 1) := by decide +kernel
theorem dJ1_charAt_3 : decode cJ1_charAt 3 = .ok (.invokestatic 9, 3) := by decide +kernel
theorem dJ1_charAt_6 : decode cJ1_charAt 6 = .ok (.aload_n 0, 1) := by decide +kernel
theorem dJ1_charAt_7 : decode cJ1_charAt 7 = .ok (.iload_n 1, 1) := by decide +kernel
theorem dJ1_charAt_8 : decode cJ1_charAt 8 = .ok (.baload, 1) := by decide +kernel
theorem dJ1_charAt_9 : decode cJ1_charAt 9 = .ok (.sipush 255, 3) := by decide +kernel
theorem dJ1_charAt_12 : decode cJ1_charAt 12 = .ok (.iand, 1) := by decide +kernel
theorem dJ1_charAt_13 : decode cJ1_charAt 13 = .ok (.i2c, 1) := by decide +kernel
theorem dJ1_charAt_14 : decode cJ1_charAt 14 = .ok (.ireturn, 1) := by decide +kernel
def mJ1_charAt : mI := (yJ1_charAt, cJ1_charAt, 2, some .char, 7, 2)
abbrev cJ0_checkIndex : ByteArray := prog_14_method_155_code
def yJ0_checkIndex : MethodName := ⟨RJ0, "checkIndex", "(II)V"⟩
theorem dJ0_checkIndex_0 : decode cJ0_checkIndex 0 = .ok (.iload_n 0, 1) := by decide +kernel
theorem dJ0_checkIndex_1 : decode cJ0_checkIndex 1 = .ok (.iload_n 1, 1) := by decide +kernel
theorem dJ0_checkIndex_2 : decode cJ0_checkIndex 2 = .ok (.getstatic 1053, 3) := by decide +kernel
theorem dJ0_checkIndex_5 : decode cJ0_checkIndex 5 = .ok (.invokestatic 1059, 3) := by decide +kernel
theorem dJ0_checkIndex_8 : decode cJ0_checkIndex 8 = .ok (.pop, 1) := by decide +kernel
theorem dJ0_checkIndex_9 : decode cJ0_checkIndex 9 = .ok (.return_, 1) := by decide +kernel
def mJ0_checkIndex : mI := (yJ0_checkIndex, cJ0_checkIndex, 2, none, 7, 2)
abbrev cJ3_checkIndex : ByteArray := prog_22_method_11_code
def yJ3_checkIndex : MethodName := ⟨RJ3, "checkIndex", "(IILjava/util/function/BiFunction;)I"⟩
theorem dJ3_checkIndex_0 : decode cJ3_checkIndex 0 = .ok (.iload_n 0, 1) := by decide +kernel
theorem dJ3_checkIndex_1 : decode cJ3_checkIndex 1 = .ok (.ifCond .lt 8, 3) := by decide +kernel
theorem dJ3_checkIndex_4 : decode cJ3_checkIndex 4 = .ok (.iload_n 0, 1) := by decide +kernel
theorem dJ3_checkIndex_5 : decode cJ3_checkIndex 5 = .ok (.iload_n 1, 1) := by decide +kernel
theorem dJ3_checkIndex_6 : decode cJ3_checkIndex 6 = .ok (.if_icmp .lt 10, 3) := by decide +kernel
theorem dJ3_checkIndex_9 : decode cJ3_checkIndex 9 = .ok (.aload_n 2, 1) := by decide +kernel
theorem dJ3_checkIndex_10 : decode cJ3_checkIndex 10 = .ok (.iload_n 0, 1) := by decide +kernel
theorem dJ3_checkIndex_11 : decode cJ3_checkIndex 11 = .ok (.iload_n 1, 1) := by decide +kernel
theorem dJ3_checkIndex_12 : decode cJ3_checkIndex 12 = .ok (.invokestatic 95, 3) := by decide +kernel
theorem dJ3_checkIndex_15 : decode cJ3_checkIndex 15 = .ok (.athrow, 1) := by decide +kernel
theorem dJ3_checkIndex_16 : decode cJ3_checkIndex 16 = .ok (.iload_n 0, 1) := by decide +kernel
theorem dJ3_checkIndex_17 : decode cJ3_checkIndex 17 = .ok (.ireturn, 1) := by decide +kernel
def mJ3_checkIndex : mI := (yJ3_checkIndex, cJ3_checkIndex, 3, some .int, 7, 3)
/-- what a member of the library asks for: its code, its class -/
def mJX (J : mI) : Prop := Cond.code J.1 J.2.1 J.2.2.1 J.2.2.2.1 ∈ mGood ∧ Cond.initialized J.1.cls ∈ mGood ∧ (J.1.cls ≠ "java/lang/invoke/MethodHandle" ∧ J.1.cls ≠ "java/lang/invoke/VarHandle" ∧ (parseMethodDescriptor J.1.desc).map (fun d => d.parameters.length) = some J.2.2.2.2.2) ∧ plainName J.1.cls = true
theorem mJ_J0_length : mJX mJ0_length := ⟨mG_t (by decide +kernel) (List.mem_of_getElem? (i := 279) (by decide +kernel)), mG_t (by decide +kernel) (List.mem_of_getElem? (i := 7) (by decide +kernel)), ⟨by decide +kernel, by decide +kernel, by decide +kernel⟩, by decide⟩
theorem mJ_J0_coder : mJX mJ0_coder := ⟨mG_t (by decide +kernel) (List.mem_of_getElem? (i := 283) (by decide +kernel)), mG_t (by decide +kernel) (List.mem_of_getElem? (i := 7) (by decide +kernel)), ⟨by decide +kernel, by decide +kernel, by decide +kernel⟩, by decide⟩
theorem mJ_J0_charAt : mJX mJ0_charAt := ⟨mG_t (by decide +kernel) (List.mem_of_getElem? (i := 289) (by decide +kernel)), mG_t (by decide +kernel) (List.mem_of_getElem? (i := 7) (by decide +kernel)), ⟨by decide +kernel, by decide +kernel, by decide +kernel⟩, by decide⟩
theorem mJ_J0_isLatin1 : mJX mJ0_isLatin1 := ⟨mG_t (by decide +kernel) (List.mem_of_getElem? (i := 293) (by decide +kernel)), mG_t (by decide +kernel) (List.mem_of_getElem? (i := 7) (by decide +kernel)), ⟨by decide +kernel, by decide +kernel, by decide +kernel⟩, by decide⟩
theorem mJ_J1_charAt : mJX mJ1_charAt := ⟨mG_t (by decide +kernel) (List.mem_of_getElem? (i := 296) (by decide +kernel)), mG_t (by decide +kernel) (List.mem_of_getElem? (i := 8) (by decide +kernel)), ⟨by decide +kernel, by decide +kernel, by decide +kernel⟩, by decide⟩
theorem mJ_J0_checkIndex : mJX mJ0_checkIndex := ⟨mG_t (by decide +kernel) (List.mem_of_getElem? (i := 299) (by decide +kernel)), mG_t (by decide +kernel) (List.mem_of_getElem? (i := 7) (by decide +kernel)), ⟨by decide +kernel, by decide +kernel, by decide +kernel⟩, by decide⟩
theorem mJ_J3_checkIndex : mJX mJ3_checkIndex := ⟨mG_t (by decide +kernel) (List.mem_of_getElem? (i := 304) (by decide +kernel)), mG_t (by decide +kernel) (List.mem_of_getElem? (i := 9) (by decide +kernel)), ⟨by decide +kernel, by decide +kernel, by decide +kernel⟩, by decide⟩
section SR
variable {G : mG} {I : mI} {d mc ms pc : Nat} {lo : List (Option Value)} {st : List Value} {μ : List va_E} {ex : Bool} {nc ns : Nat} {Q : mQ}
theorem mFix.str {p : Program} {s : State} {m : MethodId} {args : Array Value} {meth : Method} {c : Code} (F : mFix G I p s m args meth c) : mStr G s := F.wd.2.2.2.1.2
theorem mFix.cls {p : Program} {s : State} {m : MethodId} {args : Array Value} {meth : Method} {c : Code} (F : mFix G I p s m args meth c) : s.vm.findClass I.1.cls = some m.cls := F.2.2.2.2.2.1
theorem T_aloadX {k0 : Fin 4} {x : Nat} (hd : decode I.2.1 pc = .ok (.aload_n k0, 1)) (hx : lo[(k0 : Nat)]? = some (some (.retAddr x))) (k : mT G I d mc ms (pc + 1) lo (.retAddr x :: st) μ ex nc ns Q) : mT G I d mc ms pc lo st μ ex nc ns Q := by
  intro p e s m args below meth c H locs ls F hP hS hX hl hn hc
  exact lv_aload_n F.1 F.2.1 hd rfl (mPr_at hl hx) (k p e s m args below meth c H locs ls F hP hS hX hl hn hc)
theorem T_ldcS {i j : Nat} (hd : decode I.2.1 pc = .ok (.ldc i, 2)) (hcl : I.1.cls = RX1) (hj : j < 12) (hi : i = 80 + 2 * j) (k : mT G I d mc ms (pc + 2) lo (.retAddr j :: st) μ ex nc ns Q) : mT G I d mc ms pc lo st μ ex nc ns Q := by
  intro p e s m args below meth c H locs ls F hP hS hX hl hn hc
  subst hi
  exact va_ldcS F.1 F.2.1 (hcl ▸ F.cls) (F.str.1 j hj) hd (k p e s m args below meth c H locs ls F hP hS hX hl hn hc)
theorem T_aretX {j : Nat} {cn : String} (hd : decode I.2.1 pc = .ok (.areturn, 1)) (hr : I.2.2.2.1 = some (.object cn)) (hc1 : nc ≤ mc) (hs1 : ns ≤ ms) (hq : Q (some (.retAddr j)) μ ex) : mT G I d mc ms pc lo [.retAddr j] μ ex nc ns Q := by
  intro p e s m args below meth c H locs ls F hP hS hX hl hn hc
  refine W.widen hc1 hs1 ?_
  exact W.aret (v := mTr G (.retAddr j)) F.1 F.2.1 (F.2.2.1.trans hr) (Or.inl ⟨_, rfl⟩) (Or.inr ⟨_, rfl⟩) (fun t ht _ => mQc_of (r := some (.retAddr j)) hq hP hS hX ht) hS.2.2 hd F.2.2.2.1
theorem T_nret {v : Int32} {ty : FieldType} (hd : decode I.2.1 pc = .ok (.ireturn, 1)) (hr : I.2.2.2.1 = some ty) (hv : narrow ty (.int v) = .int v) (hc1 : nc ≤ mc) (hs1 : ns ≤ ms) (hq : Q (some (.int v)) μ ex) : mT G I d mc ms pc lo [.int v] μ ex nc ns Q := by
  intro p e s m args below meth c H locs ls F hP hS hX hl hn hc
  refine W.widen hc1 hs1 ?_
  exact W.zret (v := v) (ty := ty) F.1 F.2.1 (F.2.2.1.trans hr) hv (fun t ht _ => mQc_of (r := some (.int v)) hq hP hS hX ht) hS.2.2 hd F.2.2.2.1
theorem T_sval {i j : Nat} (hd : decode I.2.1 pc = .ok (.getfield i, 3)) (hw : Cond.fieldLink I.1.cls i "java/lang/String" "value" "[B" ∈ mGood) (hj : j < 12) (k : mT G I d mc ms (pc + 3) lo (.retAddr (j + 12) :: st) μ ex nc ns Q) : mT G I d mc ms pc lo (.retAddr j :: st) μ ex nc ns Q := by
  intro p e s m args below meth c H locs ls F hP hS hX hl hn hc
  exact vk_getf F.1 F.2.1 (F.str.2.2.1.1 j hj).2.2.1 hS F.cls (F.ts _ hw) (fun _ h => h) hd (k p e s m args below meth c H locs ls F hP hS hX hl hn hc)
theorem T_scod {i j : Nat} (hd : decode I.2.1 pc = .ok (.getfield i, 3)) (hw : Cond.fieldLink I.1.cls i "java/lang/String" "coder" "B" ∈ mGood) (hj : j < 12) (k : mT G I d mc ms (pc + 3) lo (.int 0 :: st) μ ex nc ns Q) : mT G I d mc ms pc lo (.retAddr j :: st) μ ex nc ns Q := by
  intro p e s m args below meth c H locs ls F hP hS hX hl hn hc
  exact vk_getf F.1 F.2.1 (F.str.2.2.1.1 j hj).2.1 hS F.cls (F.ts _ hw) (fun _ h => h) hd (k p e s m args below meth c H locs ls F hP hS hX hl hn hc)
theorem T_comp {i : Nat} (hd : decode I.2.1 pc = .ok (.getstatic i, 3)) (hw : Cond.fieldLink I.1.cls i "java/lang/String" "COMPACT_STRINGS" "Z" ∈ mGood) (k : mT G I d mc ms (pc + 3) lo (.int 1 :: st) μ ex nc ns Q) : mT G I d mc ms pc lo st μ ex nc ns Q := by
  intro p e s m args below meth c H locs ls F hP hS hX hl hn hc
  exact va_gets F.1 F.2.1 F.str.2.2.2.1 hS F.cls (F.ts _ hw) (fun _ h => h) hd (k p e s m args below meth c H locs ls F hP hS hX hl hn hc)
theorem T_form {i : Nat} (hd : decode I.2.1 pc = .ok (.getstatic i, 3)) (hw : Cond.fieldLink I.1.cls i "jdk/internal/util/Preconditions" "SIOOBE_FORMATTER" "Ljava/util/function/BiFunction;" ∈ mGood) (k : ∀ v : Value, (v = .null ∨ v = .retAddr 25) → mT G I d mc ms (pc + 3) lo (v :: st) μ ex nc ns Q) : mT G I d mc ms pc lo st μ ex nc ns Q := by
  intro p e s m args below meth c H locs ls F hP hS hX hl hn hc
  rcases F.str.2.2.2.2.2.2 with h | h
  · exact va_gets F.1 F.2.1 h hS F.cls (F.ts _ hw) (fun _ h => h) hd (k .null (Or.inl rfl) p e s m args below meth c H locs ls F hP hS hX hl hn hc)
  · exact va_gets F.1 F.2.1 h hS F.cls (F.ts _ hw) (fun _ h => h) hd (k (.retAddr 25) (Or.inr rfl) p e s m args below meth c H locs ls F hP hS hX hl hn hc)
theorem T_slen {j : Nat} (hd : decode I.2.1 pc = .ok (.arraylength, 1)) (hj : j < 12) (k : mT G I d mc ms (pc + 1) lo (.int (Int32.ofNat (mSl.getD j 0)) :: st) μ ex nc ns Q) : mT G I d mc ms pc lo (.retAddr (j + 12) :: st) μ ex nc ns Q := by
  intro p e s m args below meth c H locs ls F hP hS hX hl hn hc
  exact va_tlen F.1 F.2.1 (F.str.2.2.1.1 j hj).2.2.2 hS rfl hd (k p e s m args below meth c H locs ls F hP hS hX hl hn hc)
theorem T_sbyt {j : Nat} {i : Int32} (hd : decode I.2.1 pc = .ok (.baload, 1)) (hj : j < 12) (hi : vp_in i (mSl.getD j 0)) (k : mT G I d mc ms (pc + 1) lo (.int ((mSb.getD j []).getD i.toNatClampNeg 0) :: st) μ ex nc ns Q) : mT G I d mc ms pc lo (.int i :: .retAddr (j + 12) :: st) μ ex nc ns Q := by
  intro p e s m args below meth c H locs ls F hP hS hX hl hn hc
  exact va_tb F.1 F.2.1 (F.str.2.2.1.1 j hj).2.2.2 hS hi rfl hd (k p e s m args below meth c H locs ls F hP hS hX hl hn hc)
theorem T_i2c {x : Int32} (hd : decode I.2.1 pc = .ok (.i2c, 1)) (k : mT G I d mc ms (pc + 1) lo (.int (x.toUInt32 % 65536).toInt32 :: st) μ ex nc ns Q) : mT G I d mc ms pc lo (.int x :: st) μ ex nc ns Q := by
  intro p e s m args below meth c H locs ls F hP hS hX hl hn hc
  exact lv_i2c F.1 F.2.1 hd rfl (k p e s m args below meth c H locs ls F hP hS hX hl hn hc)
theorem mX_in {J : mI} (hJ : mJX J) : GoodIn mGood (mWsJ J) := by
  intro w hw
  have h1 : w ∈ mGood := by
    rcases List.mem_cons.mp hw with rfl | h
    · exact hJ.1
    · exact h
  exact ⟨h1, good_of_word (List.mem_filter.mp h1).2⟩
theorem mX_sig {J : mI} (hJ : mJX J) : ∀ sig, parseMethodDescriptor J.1.desc = some sig → J.2.2.2.2.2 = sig.parameters.length := by
  intro sig h
  have h2 := hJ.2.2.1.2.2
  rw [h] at h2
  exact (Option.some.inj h2).symm

theorem T_callVX {j i d1 : Nat} {as : List Value} {J : mI} {Q1 : mQ} (hd : decode I.2.1 pc = .ok (.invokevirtual i, 3)) (hJ : mJX J) (hcls : J.1.cls = "java/lang/String") (hw1 : Cond.methodLink I.1.cls i J.1 ∈ mGood) (hw2 : Cond.instanceMethod J.1 ∈ mGood) (hw3 : Cond.selects J.1.cls J.1 J.1 ∈ mGood) (hj : j < 12) (hnp : as.length = J.2.2.2.2.2) (hml : as.length + 1 ≤ J.2.2.1 ∧ J.2.2.1 ≤ 40) (hcat : ∀ v ∈ as, v.category = 1) (hst : (st.map fun v => v.category).sum ≤ 8) (hdd : d1 < d) (hmc : nc + 0 ≤ mc) (hms : ns + 0 ≤ ms) (hC : mC G J d1 0 0 (.retAddr j :: as) μ ex Q1) (hex : ∀ r μ1 ex1, Q1 r μ1 ex1 → ex1 = true → ex = true ∧ μ1.length = μ.length + 0) (k : ∀ r μ1 ex1, Q1 r μ1 ex1 → mT G I d mc ms (pc + 3) lo (r.toList ++ st) μ1 ex1 (nc + 0) (ns + 0) Q) : mT G I d mc ms pc lo (as.reverse ++ .retAddr j :: st) μ ex nc ns Q := by
  intro p e s m args below meth c H locs ls F hP hS hX hl hn hc
  have hgi := mX_in hJ
  have hrm : (mRoom d1 0 0).frames + 1 ≤ (mRoom d mc ms).frames ∧ 8 + (J.2.2.1 + 11) + (mRoom d1 0 0).locals ≤ (mRoom d mc ms).locals := ⟨by show d1 + 1 + 1 ≤ d + 1; omega, by show 8 + (J.2.2.1 + 11) + 60 * (d1 + 1) ≤ 60 * (d + 1); omega⟩
  have hcb : (Cond.code J.1 J.2.1 J.2.2.1 J.2.2.2.1).before args s = true := F.ts _ hJ.1
  have hib : (Cond.initialized J.1.cls).before args s = true := F.ts _ hJ.2.1
  have hM := mMet hJ.2.2.2 (by exact hml.1) (fun v hv => (List.mem_cons.mp hv).elim (fun h => by rw [h]; rfl) (hcat v)) hC
  have hrecv := vk_recv F.str.2.2.1 hj hS
  rw [← hcls] at hrecv
  have hpre : PreV s H J.1.cls (gX G (j + 3)) (mPc G (.retAddr j :: as) μ ex) (as.map (mTr G)) := ⟨mPc_blind, hrecv, fun U hU hW => ⟨rfl, mWd_moved F.wd hW hU hS, by rw [hU]; exact hP, fun h => by rw [hU]; exact (hX h).1⟩⟩
  have hrun : va_Run p (gL G) e (mRoom d mc ms) s m args below meth c H locs nc ns 0 0 (F0 m pc ls ((as.reverse ++ .retAddr j :: st).map (mTr G))) (st.map (mTr G)) (mQc G Q1 (Value.ref (gX G (j + 3)) :: as.map (mTr G)).toArray) (mA G) :=
    va_runV ⟨F.1, F.2.1, F.2.2.2.2.1, F.cls, F.ts⟩ hM (n := J.2.2.2.2.2) ⟨⟨rfl, rfl, hrm.1, hrm.2, pay_in F.ts hgi, List.mem_cons_self, hcb, hib, ⟨hJ.2.2.1.1, hJ.2.2.1.2.1⟩, mX_sig hJ, F.ts _ hw1⟩, F.ts _ hw2, F.ts _ hw3⟩ hpre rfl (by rw [List.length_map]; exact hnp) hl.1 (by simp [mTr]) (mRest G _ _ _ _ _ hst) hd ⟨hmc, hms⟩
  refine mGo (Q' := Q1) hrun hS (fun r μ1 ex1 H1 locs1 hq hP1 hS1 hx1 => ?_)
  have hk := k r μ1 ex1 hq p e s m args below meth c H1 locs1 ls F hP1 hS1 (fun h => by
    have a1 := hx1 h
    obtain ⟨a2, a3⟩ := hex r μ1 ex1 hq h
    have a4 := hX a2
    exact ⟨a1, by omega⟩) hl hn hc
  have e9 : (r.toList ++ st).map (mTr G) = (r.map (mTr G)).toList ++ st.map (mTr G) := by cases r <;> rfl
  rw [e9] at hk
  exact hk
theorem T_callSX {i d1 : Nat} {as : List Value} {J : mI} {Q1 : mQ} (hd : decode I.2.1 pc = .ok (.invokestatic i, 3)) (hJ : mJX J) (hw1 : Cond.methodLink I.1.cls i J.1 ∈ mGood) (hw2 : Cond.static J.1 ∈ mGood) (hnp : as.length = J.2.2.2.2.2) (hml : as.length ≤ J.2.2.1 ∧ J.2.2.1 ≤ 40) (hcat : ∀ v ∈ as, v.category = 1) (hst : (st.map fun v => v.category).sum ≤ 8) (hdd : d1 < d) (hmc : nc + 0 ≤ mc) (hms : ns + 0 ≤ ms) (hC : mC G J d1 0 0 as μ ex Q1) (hex : ∀ r μ1 ex1, Q1 r μ1 ex1 → ex1 = true → ex = true ∧ μ1.length = μ.length + 0) (k : ∀ r μ1 ex1, Q1 r μ1 ex1 → mT G I d mc ms (pc + 3) lo (r.toList ++ st) μ1 ex1 (nc + 0) (ns + 0) Q) : mT G I d mc ms pc lo (as.reverse ++ st) μ ex nc ns Q := by
  intro p e s m args below meth c H locs ls F hP hS hX hl hn hc
  have hgi := mX_in hJ
  have hrm : (mRoom d1 0 0).frames + 1 ≤ (mRoom d mc ms).frames ∧ 8 + (J.2.2.1 + 11) + (mRoom d1 0 0).locals ≤ (mRoom d mc ms).locals := ⟨by show d1 + 1 + 1 ≤ d + 1; omega, by show 8 + (J.2.2.1 + 11) + 60 * (d1 + 1) ≤ 60 * (d + 1); omega⟩
  have hcb : (Cond.code J.1 J.2.1 J.2.2.1 J.2.2.2.1).before args s = true := F.ts _ hJ.1
  have hib : (Cond.initialized J.1.cls).before args s = true := F.ts _ hJ.2.1
  have hM := mMet hJ.2.2.2 hml.1 hcat hC
  have hpre : PreS s H (mPc G as μ ex) (as.map (mTr G)) := ⟨mPc_blind, fun U hU hW => ⟨rfl, mWd_moved F.wd hW hU hS, by rw [hU]; exact hP, fun h => by rw [hU]; exact (hX h).1⟩⟩
  have hrun : va_Run p (gL G) e (mRoom d mc ms) s m args below meth c H locs nc ns 0 0 (F0 m pc ls ((as.reverse ++ st).map (mTr G))) (st.map (mTr G)) (mQc G Q1 (as.map (mTr G)).toArray) (mA G) :=
    va_runS ⟨F.1, F.2.1, F.2.2.2.2.1, F.cls, F.ts⟩ hM (n := J.2.2.2.2.2) ⟨⟨rfl, rfl, hrm.1, hrm.2, pay_in F.ts hgi, List.mem_cons_self, hcb, hib, ⟨hJ.2.2.1.1, hJ.2.2.1.2.1⟩, mX_sig hJ, F.ts _ hw1⟩, F.ts _ hw2⟩ hpre rfl (by rw [List.length_map]; exact hnp) hl.1 (by simp) (mRest G _ _ _ _ _ hst) hd ⟨hmc, hms⟩
  refine mGo (Q' := Q1) hrun hS (fun r μ1 ex1 H1 locs1 hq hP1 hS1 hx1 => ?_)
  have hk := k r μ1 ex1 hq p e s m args below meth c H1 locs1 ls F hP1 hS1 (fun h => by
    have a1 := hx1 h
    obtain ⟨a2, a3⟩ := hex r μ1 ex1 hq h
    have a4 := hX a2
    exact ⟨a1, by omega⟩) hl hn hc
  have e9 : (r.toList ++ st).map (mTr G) = (r.map (mTr G)).toList ++ st.map (mTr G) := by cases r <;> rfl
  rw [e9] at hk
  exact hk
end SR
section SF
variable {G : mG} {I : mI} {d pc : Nat} {lo : List (Option Value)} {st : List Value} {σ : mS} {Q : Option Value → mS → Prop}
theorem F_callVX {j i d1 : Nat} {as : List Value} {J : mI} {r : Option Value} {σ1 : mS} (hC : mV G J d1 (.retAddr j :: as) σ r σ1) (hd : decode I.2.1 pc = .ok (.invokevirtual i, 3)) (hJ : mJX J) (hcls : J.1.cls = "java/lang/String") (hw1 : Cond.methodLink I.1.cls i J.1 ∈ mGood) (hw2 : Cond.instanceMethod J.1 ∈ mGood) (hw3 : Cond.selects J.1.cls J.1 J.1 ∈ mGood) (hj : j < 12) (hnp : as.length = J.2.2.2.2.2) (hml : as.length + 1 ≤ J.2.2.1 ∧ J.2.2.1 ≤ 40) (hcat : ∀ v ∈ as, v.category = 1) (hst : (st.map fun v => v.category).sum ≤ 8) (hdd : d1 < d) (k : mF G I d (pc + 3) lo (r.toList ++ st) σ1 Q) : mF G I d pc lo (as.reverse ++ .retAddr j :: st) σ Q := by
  refine T_callVX hd hJ hcls hw1 hw2 hw3 hj hnp hml hcat hst hdd (Nat.le_refl _) (Nat.le_refl _) hC (fun r1 μ1 ex1 h hx => ?_) (fun r1 μ1 ex1 h => ?_)
  · rw [h.1] at hx; cases hx
  · obtain ⟨h2, σ2, h3, h4, h5⟩ := h
    rw [h2, h3, h4, h5]
    exact k
theorem F_callSX {i d1 : Nat} {as : List Value} {J : mI} {r : Option Value} {σ1 : mS} (hC : mV G J d1 as σ r σ1) (hd : decode I.2.1 pc = .ok (.invokestatic i, 3)) (hJ : mJX J) (hw1 : Cond.methodLink I.1.cls i J.1 ∈ mGood) (hw2 : Cond.static J.1 ∈ mGood) (hnp : as.length = J.2.2.2.2.2) (hml : as.length ≤ J.2.2.1 ∧ J.2.2.1 ≤ 40) (hcat : ∀ v ∈ as, v.category = 1) (hst : (st.map fun v => v.category).sum ≤ 8) (hdd : d1 < d) (k : mF G I d (pc + 3) lo (r.toList ++ st) σ1 Q) : mF G I d pc lo (as.reverse ++ st) σ Q := by
  refine T_callSX hd hJ hw1 hw2 hnp hml hcat hst hdd (Nat.le_refl _) (Nat.le_refl _) hC (fun r1 μ1 ex1 h hx => ?_) (fun r1 μ1 ex1 h => ?_)
  · rw [h.1] at hx; cases hx
  · obtain ⟨h2, σ2, h3, h4, h5⟩ := h
    rw [h2, h3, h4, h5]
    exact k
end SF
section SM
variable {G : mG} {d : Nat} {σ : mS} {j : Nat}
theorem v_coder (hj : j < 12) : mV G mJ0_coder d [.retAddr j] σ (some (.int 0)) σ := mV_of fun Q hQ => by
  refine T_comp dJ0_coder_0 (mG_t (by decide +kernel) (List.mem_of_getElem? (i := 284) (by decide +kernel))) ?_
  refine F_if_eq (tgt := 13) dJ0_coder_3 rfl (fun c => absurd c (by decide)) (fun _ => ?_)
  refine T_aloadX dJ0_coder_6 rfl ?_
  refine T_scod dJ0_coder_7 (mG_t (by decide +kernel) (List.mem_of_getElem? (i := 1059) (by decide +kernel))) hj ?_
  refine F_goto (tgt := 14) dJ0_coder_10 rfl ?_
  exact T_nret dJ0_coder_14 rfl (by rfl) (Nat.le_refl _) (Nat.le_refl _) ⟨rfl, σ, rfl, hQ⟩
theorem v_isLatin1 (hj : j < 12) : mV G mJ0_isLatin1 d [.retAddr j] σ (some (.int 1)) σ := mV_of fun Q hQ => by
  refine T_comp dJ0_isLatin1_0 (mG_t (by decide +kernel) (List.mem_of_getElem? (i := 284) (by decide +kernel))) ?_
  refine F_if_eq (tgt := 17) dJ0_isLatin1_3 rfl (fun c => absurd c (by decide)) (fun _ => ?_)
  refine T_aloadX dJ0_isLatin1_6 rfl ?_
  refine T_scod dJ0_isLatin1_7 (mG_t (by decide +kernel) (List.mem_of_getElem? (i := 1059) (by decide +kernel))) hj ?_
  refine F_if_ne (tgt := 17) dJ0_isLatin1_10 rfl (fun c => absurd rfl c) (fun _ => ?_)
  refine F_iconst (v := 1) dJ0_isLatin1_13 rfl ?_
  refine F_goto (tgt := 18) dJ0_isLatin1_14 rfl ?_
  exact T_nret dJ0_isLatin1_18 rfl (by rfl) (Nat.le_refl _) (Nat.le_refl _) ⟨rfl, σ, rfl, hQ⟩
theorem shr_0 : ∀ j, j < 12 → Int32.ofNat (mSl.getD j 0) >>> ((0 : Int32) &&& 31) = nI (mSl.getD j 0) := by decide +kernel
theorem v_length (hj : j < 12) : mV G mJ0_length (d + 1) [.retAddr j] σ (some (.int (nI (mSl.getD j 0)))) σ := mV_of fun Q hQ => by
  rw [← shr_0 j hj] at hQ
  refine T_aloadX dJ0_length_0 rfl ?_
  refine T_sval dJ0_length_1 (mG_t (by decide +kernel) (List.mem_of_getElem? (i := 1058) (by decide +kernel))) hj ?_
  refine T_slen dJ0_length_4 hj ?_
  refine T_aloadX dJ0_length_5 rfl ?_
  refine F_callVX (as := []) (v_coder (d := d) hj) dJ0_length_6 mJ_J0_coder rfl (mG_t (by decide +kernel) (List.mem_of_getElem? (i := 280) (by decide +kernel))) (mG_t (by decide +kernel) (List.mem_of_getElem? (i := 281) (by decide +kernel))) (mG_t (by decide +kernel) (List.mem_of_getElem? (i := 282) (by decide +kernel))) hj rfl ⟨Nat.le_of_ble_eq_true rfl, Nat.le_of_ble_eq_true rfl⟩ (by intro v hv; cases hv) (Nat.le_of_ble_eq_true rfl) (by omega) ?_
  refine F_ishr dJ0_length_9 ?_
  exact T_nret dJ0_length_10 rfl (by rfl) (Nat.le_refl _) (Nat.le_refl _) ⟨rfl, σ, rfl, hQ⟩
theorem v_check3 {a n : Nat} (h : a < n) (hn : n < 2 ^ 31) {v : Value} : mV G mJ3_checkIndex d [.int (nI a), .int (nI n), v] σ (some (.int (nI a))) σ := mV_of fun Q hQ => by
  refine F_iload_n dJ3_checkIndex_0 rfl ?_
  refine F_if_ltN (tgt := 9) dJ3_checkIndex_1 rfl (by omega) ?_
  refine F_iload_n dJ3_checkIndex_4 rfl ?_
  refine F_iload_n dJ3_checkIndex_5 rfl ?_
  refine F_icmp_ltN (tgt := 16) dJ3_checkIndex_6 rfl (by omega) (by omega) (fun _ => ?_) (fun c => absurd h c)
  refine F_iload_n dJ3_checkIndex_16 rfl ?_
  exact T_nret dJ3_checkIndex_17 rfl (by rfl) (Nat.le_refl _) (Nat.le_refl _) ⟨rfl, σ, rfl, hQ⟩
theorem v_check {a n : Nat} (h : a < n) (hn : n < 2 ^ 31) : mV G mJ0_checkIndex (d + 1) [.int (nI a), .int (nI n)] σ none σ := mV_of fun Q hQ => by
  refine F_iload_n dJ0_checkIndex_0 rfl ?_
  refine F_iload_n dJ0_checkIndex_1 rfl ?_
  refine T_form dJ0_checkIndex_2 (mG_t (by decide +kernel) (List.mem_of_getElem? (i := 300) (by decide +kernel))) (fun v hv => ?_)
  have hcv : v.category = 1 := by rcases hv with rfl | rfl <;> rfl
  refine F_callSX (as := [.int (nI a), .int (nI n), v]) (v_check3 (d := d) h hn) dJ0_checkIndex_5 mJ_J3_checkIndex (mG_t (by decide +kernel) (List.mem_of_getElem? (i := 302) (by decide +kernel))) (mG_t (by decide +kernel) (List.mem_of_getElem? (i := 303) (by decide +kernel))) rfl ⟨Nat.le_of_ble_eq_true rfl, Nat.le_of_ble_eq_true rfl⟩ (by intro w hw; simp at hw; rcases hw with rfl | rfl | rfl <;> first | rfl | exact hcv) (Nat.le_of_ble_eq_true rfl) (by omega) ?_
  refine F_pop dJ0_checkIndex_8 rfl ?_
  exact F_vret dJ0_checkIndex_9 rfl hQ
theorem sb_c : ∀ j, j < 12 → ∀ k, k < mSl.getD j 0 → (((mSb.getD j []).getD k 0 &&& 255).toUInt32 % 65536).toInt32 = (mSb.getD j []).getD k 0 ∧ narrow .char (.int ((mSb.getD j []).getD k 0)) = .int ((mSb.getD j []).getD k 0) := by decide +kernel
theorem sl_lt : ∀ j, j < 12 → mSl.getD j 0 < 7 := by decide +kernel
theorem v_char1 {k : Nat} (hj : j < 12) (hk : k < mSl.getD j 0) : mV G mJ1_charAt (d + 2) [.retAddr (j + 12), .int (nI k)] σ (some (.int ((mSb.getD j []).getD k 0))) σ := mV_of fun Q hQ => by
  have h7 := sl_lt j hj
  obtain ⟨e1, e2⟩ := sb_c j hj k hk
  refine F_iload_n dJ1_charAt_0 rfl ?_
  refine T_aloadX dJ1_charAt_1 rfl ?_
  refine T_slen dJ1_charAt_2 hj ?_
  refine F_callSX (as := [.int (nI k), .int (Int32.ofNat (mSl.getD j 0))]) (v_check (d := d) hk (by omega)) dJ1_charAt_3 mJ_J0_checkIndex (mG_t (by decide +kernel) (List.mem_of_getElem? (i := 297) (by decide +kernel))) (mG_t (by decide +kernel) (List.mem_of_getElem? (i := 298) (by decide +kernel))) rfl ⟨Nat.le_of_ble_eq_true rfl, Nat.le_of_ble_eq_true rfl⟩ (by intro w hw; simp at hw; rcases hw with rfl | rfl <;> rfl) (Nat.le_of_ble_eq_true rfl) (by omega) ?_
  refine T_aloadX dJ1_charAt_6 rfl ?_
  refine F_iload_n dJ1_charAt_7 rfl ?_
  refine T_sbyt dJ1_charAt_8 hj (vp_in_nI hk (by omega)) ?_
  rw [nI_clamp (by omega)]
  refine F_sipush (v := 255) dJ1_charAt_9 rfl ?_
  refine F_iand dJ1_charAt_12 ?_
  refine T_i2c dJ1_charAt_13 ?_
  rw [e1]
  exact T_nret dJ1_charAt_14 rfl e2 (Nat.le_refl _) (Nat.le_refl _) ⟨rfl, σ, rfl, hQ⟩
theorem v_charAt {k : Nat} (hj : j < 12) (hk : k < mSl.getD j 0) : mV G mJ0_charAt (d + 3) [.retAddr j, .int (nI k)] σ (some (.int ((mSb.getD j []).getD k 0))) σ := mV_of fun Q hQ => by
  obtain ⟨e1, e2⟩ := sb_c j hj k hk
  refine T_aloadX dJ0_charAt_0 rfl ?_
  refine F_callVX (as := []) (v_isLatin1 (d := d) hj) dJ0_charAt_1 mJ_J0_isLatin1 rfl (mG_t (by decide +kernel) (List.mem_of_getElem? (i := 290) (by decide +kernel))) (mG_t (by decide +kernel) (List.mem_of_getElem? (i := 291) (by decide +kernel))) (mG_t (by decide +kernel) (List.mem_of_getElem? (i := 292) (by decide +kernel))) hj rfl ⟨Nat.le_of_ble_eq_true rfl, Nat.le_of_ble_eq_true rfl⟩ (by intro v hv; cases hv) (Nat.le_of_ble_eq_true rfl) (by omega) ?_
  refine F_if_eq (tgt := 16) dJ0_charAt_4 rfl (fun c => absurd c (by decide)) (fun _ => ?_)
  refine T_aloadX dJ0_charAt_7 rfl ?_
  refine T_sval dJ0_charAt_8 (mG_t (by decide +kernel) (List.mem_of_getElem? (i := 1058) (by decide +kernel))) hj ?_
  refine F_iload_n dJ0_charAt_11 rfl ?_
  refine F_callSX (as := [.retAddr (j + 12), .int (nI k)]) (v_char1 (d := d) hj hk) dJ0_charAt_12 mJ_J1_charAt (mG_t (by decide +kernel) (List.mem_of_getElem? (i := 294) (by decide +kernel))) (mG_t (by decide +kernel) (List.mem_of_getElem? (i := 295) (by decide +kernel))) rfl ⟨Nat.le_of_ble_eq_true rfl, Nat.le_of_ble_eq_true rfl⟩ (by intro w hw; simp at hw; rcases hw with rfl | rfl <;> rfl) (Nat.le_of_ble_eq_true rfl) (by omega) ?_
  exact T_nret dJ0_charAt_15 rfl e2 (Nat.le_refl _) (Nat.le_refl _) ⟨rfl, σ, rfl, hQ⟩
end SM
end
