section
-- ===== PART A: goes FIRST, ahead of the names: the tables' words, and 'selects' of the private methods out of them =====
/-- a private method of a class that the tables say can be made, by its rows of tables_1 -/
def lw_okq (q : MethodName × Nat) : Prop := (q.1.cls ≠ "java/lang/invoke/MethodHandle" ∧ q.1.cls ≠ "java/lang/invoke/VarHandle") ∧ Cond.instantiable q.1.cls q.2 ∈ tables_1 ∧ Cond.privateMethod q.1 ∈ tables_1 ∧ Cond.instanceMethod q.1 ∈ tables_1
theorem lw_p0 : lw_okq (⟨"LoomDesk$Tape", "add", "(I)V"⟩, 2) := ⟨⟨by decide +kernel, by decide +kernel⟩, List.mem_of_getElem? (i := 30) (by decide +kernel), List.mem_of_getElem? (i := 245) (by decide +kernel), List.mem_of_getElem? (i := 246) (by decide +kernel)⟩
theorem lw_p1 : lw_okq (⟨"LoomDesk$Reader", "beginLevel", "()V"⟩, 9) := ⟨⟨by decide +kernel, by decide +kernel⟩, List.mem_of_getElem? (i := 24) (by decide +kernel), List.mem_of_getElem? (i := 273) (by decide +kernel), List.mem_of_getElem? (i := 274) (by decide +kernel)⟩
theorem lw_p2 : lw_okq (⟨"LoomDesk$Reader", "readItem", "()V"⟩, 9) := ⟨⟨by decide +kernel, by decide +kernel⟩, List.mem_of_getElem? (i := 24) (by decide +kernel), List.mem_of_getElem? (i := 277) (by decide +kernel), List.mem_of_getElem? (i := 278) (by decide +kernel)⟩
theorem lw_p3 : lw_okq (⟨"LoomDesk$Reader", "readPick", "()V"⟩, 9) := ⟨⟨by decide +kernel, by decide +kernel⟩, List.mem_of_getElem? (i := 24) (by decide +kernel), List.mem_of_getElem? (i := 282) (by decide +kernel), List.mem_of_getElem? (i := 283) (by decide +kernel)⟩
theorem lw_p4 : lw_okq (⟨"LoomDesk$Reader", "readDigits", "(II)I"⟩, 9) := ⟨⟨by decide +kernel, by decide +kernel⟩, List.mem_of_getElem? (i := 24) (by decide +kernel), List.mem_of_getElem? (i := 286) (by decide +kernel), List.mem_of_getElem? (i := 287) (by decide +kernel)⟩
theorem lw_p5 : lw_okq (⟨"LoomDesk$Reader", "faultAt", "(I)V"⟩, 9) := ⟨⟨by decide +kernel, by decide +kernel⟩, List.mem_of_getElem? (i := 24) (by decide +kernel), List.mem_of_getElem? (i := 297) (by decide +kernel), List.mem_of_getElem? (i := 298) (by decide +kernel)⟩
theorem lw_p6 : lw_okq (⟨"LoomDesk$Reader", "addPicks", "(J)V"⟩, 9) := ⟨⟨by decide +kernel, by decide +kernel⟩, List.mem_of_getElem? (i := 24) (by decide +kernel), List.mem_of_getElem? (i := 305) (by decide +kernel), List.mem_of_getElem? (i := 306) (by decide +kernel)⟩
theorem lw_p7 : lw_okq (⟨"LoomDesk$Reader", "readCarrier", "()V"⟩, 9) := ⟨⟨by decide +kernel, by decide +kernel⟩, List.mem_of_getElem? (i := 24) (by decide +kernel), List.mem_of_getElem? (i := 313) (by decide +kernel), List.mem_of_getElem? (i := 314) (by decide +kernel)⟩
theorem lw_p8 : lw_okq (⟨"LoomDesk$Reader", "readDensity", "()V"⟩, 9) := ⟨⟨by decide +kernel, by decide +kernel⟩, List.mem_of_getElem? (i := 24) (by decide +kernel), List.mem_of_getElem? (i := 317) (by decide +kernel), List.mem_of_getElem? (i := 318) (by decide +kernel)⟩
theorem lw_p9 : lw_okq (⟨"LoomDesk$Reader", "readRepeat", "()V"⟩, 9) := ⟨⟨by decide +kernel, by decide +kernel⟩, List.mem_of_getElem? (i := 24) (by decide +kernel), List.mem_of_getElem? (i := 326) (by decide +kernel), List.mem_of_getElem? (i := 327) (by decide +kernel)⟩
theorem lw_p10 : lw_okq (⟨"LoomDesk$Reader", "open", "(II)V"⟩, 9) := ⟨⟨by decide +kernel, by decide +kernel⟩, List.mem_of_getElem? (i := 24) (by decide +kernel), List.mem_of_getElem? (i := 330) (by decide +kernel), List.mem_of_getElem? (i := 331) (by decide +kernel)⟩
theorem lw_p11 : lw_okq (⟨"LoomDesk$Reader", "close", "()V"⟩, 9) := ⟨⟨by decide +kernel, by decide +kernel⟩, List.mem_of_getElem? (i := 24) (by decide +kernel), List.mem_of_getElem? (i := 334) (by decide +kernel), List.mem_of_getElem? (i := 335) (by decide +kernel)⟩
theorem lw_p12 : lw_okq (⟨"LoomDesk$Pattern", "tellHere", "(II)I"⟩, 11) := ⟨⟨by decide +kernel, by decide +kernel⟩, List.mem_of_getElem? (i := 45) (by decide +kernel), List.mem_of_getElem? (i := 371) (by decide +kernel), List.mem_of_getElem? (i := 372) (by decide +kernel)⟩
theorem lw_p13 : lw_okq (⟨"LoomDesk$Pattern", "pass", "(I)I"⟩, 11) := ⟨⟨by decide +kernel, by decide +kernel⟩, List.mem_of_getElem? (i := 45) (by decide +kernel), List.mem_of_getElem? (i := 375) (by decide +kernel), List.mem_of_getElem? (i := 376) (by decide +kernel)⟩
theorem lw_p14 : lw_okq (⟨"LoomDesk$Pattern", "passBracket", "(I)I"⟩, 11) := ⟨⟨by decide +kernel, by decide +kernel⟩, List.mem_of_getElem? (i := 45) (by decide +kernel), List.mem_of_getElem? (i := 379) (by decide +kernel), List.mem_of_getElem? (i := 380) (by decide +kernel)⟩
theorem lw_p15 : lw_okq (⟨"LoomDesk", "goBackwards", "(I)V"⟩, 12) := ⟨⟨by decide +kernel, by decide +kernel⟩, List.mem_of_getElem? (i := 16) (by decide +kernel), List.mem_of_getElem? (i := 403) (by decide +kernel), List.mem_of_getElem? (i := 404) (by decide +kernel)⟩
def lw_privs_1 : List (MethodName × Nat) := [(⟨"LoomDesk$Tape", "add", "(I)V"⟩, 2), (⟨"LoomDesk$Reader", "beginLevel", "()V"⟩, 9), (⟨"LoomDesk$Reader", "readItem", "()V"⟩, 9), (⟨"LoomDesk$Reader", "readPick", "()V"⟩, 9), (⟨"LoomDesk$Reader", "readDigits", "(II)I"⟩, 9), (⟨"LoomDesk$Reader", "faultAt", "(I)V"⟩, 9), (⟨"LoomDesk$Reader", "addPicks", "(J)V"⟩, 9), (⟨"LoomDesk$Reader", "readCarrier", "()V"⟩, 9), (⟨"LoomDesk$Reader", "readDensity", "()V"⟩, 9), (⟨"LoomDesk$Reader", "readRepeat", "()V"⟩, 9), (⟨"LoomDesk$Reader", "open", "(II)V"⟩, 9), (⟨"LoomDesk$Reader", "close", "()V"⟩, 9), (⟨"LoomDesk$Pattern", "tellHere", "(II)I"⟩, 11), (⟨"LoomDesk$Pattern", "pass", "(I)I"⟩, 11), (⟨"LoomDesk$Pattern", "passBracket", "(I)I"⟩, 11), (⟨"LoomDesk", "goBackwards", "(I)V"⟩, 12)]
theorem lw_r1 : ∀ q ∈ lw_privs_1, lw_okq q := List.forall_mem_cons.mpr ⟨lw_p0, List.forall_mem_cons.mpr ⟨lw_p1, List.forall_mem_cons.mpr ⟨lw_p2, List.forall_mem_cons.mpr ⟨lw_p3, List.forall_mem_cons.mpr ⟨lw_p4, List.forall_mem_cons.mpr ⟨lw_p5, List.forall_mem_cons.mpr ⟨lw_p6, List.forall_mem_cons.mpr ⟨lw_p7, List.forall_mem_cons.mpr ⟨lw_p8, List.forall_mem_cons.mpr ⟨lw_p9, List.forall_mem_cons.mpr ⟨lw_p10, List.forall_mem_cons.mpr ⟨lw_p11, List.forall_mem_cons.mpr ⟨lw_p12, List.forall_mem_cons.mpr ⟨lw_p13, List.forall_mem_cons.mpr ⟨lw_p14, List.forall_mem_cons.mpr ⟨lw_p15, fun _ h => absurd h List.not_mem_nil⟩⟩⟩⟩⟩⟩⟩⟩⟩⟩⟩⟩⟩⟩⟩⟩
theorem lw_p16 : lw_okq (⟨"LoomDesk", "undo", "(I)V"⟩, 12) := ⟨⟨by decide +kernel, by decide +kernel⟩, List.mem_of_getElem? (i := 16) (by decide +kernel), List.mem_of_getElem? (i := 411) (by decide +kernel), List.mem_of_getElem? (i := 412) (by decide +kernel)⟩
theorem lw_p17 : lw_okq (⟨"LoomDesk", "reopenTurn", "()V"⟩, 12) := ⟨⟨by decide +kernel, by decide +kernel⟩, List.mem_of_getElem? (i := 16) (by decide +kernel), List.mem_of_getElem? (i := 415) (by decide +kernel), List.mem_of_getElem? (i := 416) (by decide +kernel)⟩
theorem lw_p18 : lw_okq (⟨"LoomDesk$Cloth", "slotOf", "(I)I"⟩, 7) := ⟨⟨by decide +kernel, by decide +kernel⟩, List.mem_of_getElem? (i := 149) (by decide +kernel), List.mem_of_getElem? (i := 423) (by decide +kernel), List.mem_of_getElem? (i := 424) (by decide +kernel)⟩
theorem lw_p19 : lw_okq (⟨"LoomDesk", "recall", "()J"⟩, 12) := ⟨⟨by decide +kernel, by decide +kernel⟩, List.mem_of_getElem? (i := 16) (by decide +kernel), List.mem_of_getElem? (i := 472) (by decide +kernel), List.mem_of_getElem? (i := 473) (by decide +kernel)⟩
theorem lw_p20 : lw_okq (⟨"LoomDesk$Records", "other", "()I"⟩, 3) := ⟨⟨by decide +kernel, by decide +kernel⟩, List.mem_of_getElem? (i := 179) (by decide +kernel), List.mem_of_getElem? (i := 480) (by decide +kernel), List.mem_of_getElem? (i := 481) (by decide +kernel)⟩
theorem lw_p21 : lw_okq (⟨"java/lang/Throwable", "fillInStackTrace", "(I)Ljava/lang/Throwable;"⟩, 6) := ⟨⟨by decide +kernel, by decide +kernel⟩, List.mem_of_getElem? (i := 592) (by decide +kernel), List.mem_of_getElem? (i := 590) (by decide +kernel), List.mem_of_getElem? (i := 591) (by decide +kernel)⟩
theorem lw_p22 : lw_okq (⟨"LoomDesk", "goForwards", "(I)I"⟩, 12) := ⟨⟨by decide +kernel, by decide +kernel⟩, List.mem_of_getElem? (i := 16) (by decide +kernel), List.mem_of_getElem? (i := 642) (by decide +kernel), List.mem_of_getElem? (i := 643) (by decide +kernel)⟩
theorem lw_p23 : lw_okq (⟨"LoomDesk", "comeTo", "(I)V"⟩, 12) := ⟨⟨by decide +kernel, by decide +kernel⟩, List.mem_of_getElem? (i := 16) (by decide +kernel), List.mem_of_getElem? (i := 655) (by decide +kernel), List.mem_of_getElem? (i := 656) (by decide +kernel)⟩
theorem lw_p24 : lw_okq (⟨"LoomDesk", "insert", "()V"⟩, 12) := ⟨⟨by decide +kernel, by decide +kernel⟩, List.mem_of_getElem? (i := 16) (by decide +kernel), List.mem_of_getElem? (i := 659) (by decide +kernel), List.mem_of_getElem? (i := 660) (by decide +kernel)⟩
theorem lw_p25 : lw_okq (⟨"LoomDesk", "endTurn", "()V"⟩, 12) := ⟨⟨by decide +kernel, by decide +kernel⟩, List.mem_of_getElem? (i := 16) (by decide +kernel), List.mem_of_getElem? (i := 667) (by decide +kernel), List.mem_of_getElem? (i := 668) (by decide +kernel)⟩
theorem lw_p26 : lw_okq (⟨"LoomDeskModel", "reads", "()Z"⟩, 44) := ⟨⟨by decide +kernel, by decide +kernel⟩, List.mem_of_getElem? (i := 691) (by decide +kernel), List.mem_of_getElem? (i := 846) (by decide +kernel), List.mem_of_getElem? (i := 847) (by decide +kernel)⟩
theorem lw_p27 : lw_okq (⟨"LoomDeskModel", "skip", "()V"⟩, 44) := ⟨⟨by decide +kernel, by decide +kernel⟩, List.mem_of_getElem? (i := 691) (by decide +kernel), List.mem_of_getElem? (i := 850) (by decide +kernel), List.mem_of_getElem? (i := 851) (by decide +kernel)⟩
theorem lw_p28 : lw_okq (⟨"LoomDeskModel", "see", "()I"⟩, 44) := ⟨⟨by decide +kernel, by decide +kernel⟩, List.mem_of_getElem? (i := 691) (by decide +kernel), List.mem_of_getElem? (i := 854) (by decide +kernel), List.mem_of_getElem? (i := 855) (by decide +kernel)⟩
theorem lw_p29 : lw_okq (⟨"LoomDeskModel", "readsWord", "(I)Z"⟩, 44) := ⟨⟨by decide +kernel, by decide +kernel⟩, List.mem_of_getElem? (i := 691) (by decide +kernel), List.mem_of_getElem? (i := 858) (by decide +kernel), List.mem_of_getElem? (i := 859) (by decide +kernel)⟩
theorem lw_p30 : lw_okq (⟨"LoomDeskModel", "item", "(II)V"⟩, 44) := ⟨⟨by decide +kernel, by decide +kernel⟩, List.mem_of_getElem? (i := 691) (by decide +kernel), List.mem_of_getElem? (i := 868) (by decide +kernel), List.mem_of_getElem? (i := 869) (by decide +kernel)⟩
theorem lw_p31 : lw_okq (⟨"LoomDeskModel", "readsOpening", "(I)Z"⟩, 44) := ⟨⟨by decide +kernel, by decide +kernel⟩, List.mem_of_getElem? (i := 691) (by decide +kernel), List.mem_of_getElem? (i := 872) (by decide +kernel), List.mem_of_getElem? (i := 873) (by decide +kernel)⟩
def lw_privs_2 : List (MethodName × Nat) := [(⟨"LoomDesk", "undo", "(I)V"⟩, 12), (⟨"LoomDesk", "reopenTurn", "()V"⟩, 12), (⟨"LoomDesk$Cloth", "slotOf", "(I)I"⟩, 7), (⟨"LoomDesk", "recall", "()J"⟩, 12), (⟨"LoomDesk$Records", "other", "()I"⟩, 3), (⟨"java/lang/Throwable", "fillInStackTrace", "(I)Ljava/lang/Throwable;"⟩, 6), (⟨"LoomDesk", "goForwards", "(I)I"⟩, 12), (⟨"LoomDesk", "comeTo", "(I)V"⟩, 12), (⟨"LoomDesk", "insert", "()V"⟩, 12), (⟨"LoomDesk", "endTurn", "()V"⟩, 12), (⟨"LoomDeskModel", "reads", "()Z"⟩, 44), (⟨"LoomDeskModel", "skip", "()V"⟩, 44), (⟨"LoomDeskModel", "see", "()I"⟩, 44), (⟨"LoomDeskModel", "readsWord", "(I)Z"⟩, 44), (⟨"LoomDeskModel", "item", "(II)V"⟩, 44), (⟨"LoomDeskModel", "readsOpening", "(I)Z"⟩, 44)]
theorem lw_r2 : ∀ q ∈ lw_privs_2, lw_okq q := List.forall_mem_cons.mpr ⟨lw_p16, List.forall_mem_cons.mpr ⟨lw_p17, List.forall_mem_cons.mpr ⟨lw_p18, List.forall_mem_cons.mpr ⟨lw_p19, List.forall_mem_cons.mpr ⟨lw_p20, List.forall_mem_cons.mpr ⟨lw_p21, List.forall_mem_cons.mpr ⟨lw_p22, List.forall_mem_cons.mpr ⟨lw_p23, List.forall_mem_cons.mpr ⟨lw_p24, List.forall_mem_cons.mpr ⟨lw_p25, List.forall_mem_cons.mpr ⟨lw_p26, List.forall_mem_cons.mpr ⟨lw_p27, List.forall_mem_cons.mpr ⟨lw_p28, List.forall_mem_cons.mpr ⟨lw_p29, List.forall_mem_cons.mpr ⟨lw_p30, List.forall_mem_cons.mpr ⟨lw_p31, fun _ h => absurd h List.not_mem_nil⟩⟩⟩⟩⟩⟩⟩⟩⟩⟩⟩⟩⟩⟩⟩⟩
theorem lw_p32 : lw_okq (⟨"LoomDeskModel", "swap", "()V"⟩, 44) := ⟨⟨by decide +kernel, by decide +kernel⟩, List.mem_of_getElem? (i := 691) (by decide +kernel), List.mem_of_getElem? (i := 876) (by decide +kernel), List.mem_of_getElem? (i := 877) (by decide +kernel)⟩
theorem lw_p33 : lw_okq (⟨"LoomDeskModel", "reckon", "()V"⟩, 44) := ⟨⟨by decide +kernel, by decide +kernel⟩, List.mem_of_getElem? (i := 691) (by decide +kernel), List.mem_of_getElem? (i := 880) (by decide +kernel), List.mem_of_getElem? (i := 881) (by decide +kernel)⟩
theorem lw_p34 : lw_okq (⟨"LoomDeskModel", "isBracket", "(I)Z"⟩, 44) := ⟨⟨by decide +kernel, by decide +kernel⟩, List.mem_of_getElem? (i := 691) (by decide +kernel), List.mem_of_getElem? (i := 884) (by decide +kernel), List.mem_of_getElem? (i := 885) (by decide +kernel)⟩
theorem lw_p35 : lw_okq (⟨"LoomDeskModel", "times", "(I)J"⟩, 44) := ⟨⟨by decide +kernel, by decide +kernel⟩, List.mem_of_getElem? (i := 691) (by decide +kernel), List.mem_of_getElem? (i := 888) (by decide +kernel), List.mem_of_getElem? (i := 889) (by decide +kernel)⟩
theorem lw_p36 : lw_okq (⟨"LoomDeskModel", "look", "(JI)I"⟩, 44) := ⟨⟨by decide +kernel, by decide +kernel⟩, List.mem_of_getElem? (i := 691) (by decide +kernel), List.mem_of_getElem? (i := 906) (by decide +kernel), List.mem_of_getElem? (i := 907) (by decide +kernel)⟩
theorem lw_p37 : lw_okq (⟨"LoomDeskModel", "brakes", "()V"⟩, 44) := ⟨⟨by decide +kernel, by decide +kernel⟩, List.mem_of_getElem? (i := 691) (by decide +kernel), List.mem_of_getElem? (i := 918) (by decide +kernel), List.mem_of_getElem? (i := 919) (by decide +kernel)⟩
theorem lw_p38 : lw_okq (⟨"LoomDeskModel", "comes", "(I)V"⟩, 44) := ⟨⟨by decide +kernel, by decide +kernel⟩, List.mem_of_getElem? (i := 691) (by decide +kernel), List.mem_of_getElem? (i := 931) (by decide +kernel), List.mem_of_getElem? (i := 932) (by decide +kernel)⟩
theorem lw_p39 : lw_okq (⟨"LoomDeskModel", "record", "(Z)V"⟩, 44) := ⟨⟨by decide +kernel, by decide +kernel⟩, List.mem_of_getElem? (i := 691) (by decide +kernel), List.mem_of_getElem? (i := 935) (by decide +kernel), List.mem_of_getElem? (i := 936) (by decide +kernel)⟩
theorem lw_p40 : lw_okq (⟨"LoomDeskModel", "beatUp", "()V"⟩, 44) := ⟨⟨by decide +kernel, by decide +kernel⟩, List.mem_of_getElem? (i := 691) (by decide +kernel), List.mem_of_getElem? (i := 939) (by decide +kernel), List.mem_of_getElem? (i := 940) (by decide +kernel)⟩
theorem lw_p41 : lw_okq (⟨"LoomDeskModel", "goesBack", "(I)V"⟩, 44) := ⟨⟨by decide +kernel, by decide +kernel⟩, List.mem_of_getElem? (i := 691) (by decide +kernel), List.mem_of_getElem? (i := 949) (by decide +kernel), List.mem_of_getElem? (i := 950) (by decide +kernel)⟩
theorem lw_p42 : lw_okq (⟨"LoomDeskModel", "unpicks", "()V"⟩, 44) := ⟨⟨by decide +kernel, by decide +kernel⟩, List.mem_of_getElem? (i := 691) (by decide +kernel), List.mem_of_getElem? (i := 956) (by decide +kernel), List.mem_of_getElem? (i := 957) (by decide +kernel)⟩
def lw_privs_3 : List (MethodName × Nat) := [(⟨"LoomDeskModel", "swap", "()V"⟩, 44), (⟨"LoomDeskModel", "reckon", "()V"⟩, 44), (⟨"LoomDeskModel", "isBracket", "(I)Z"⟩, 44), (⟨"LoomDeskModel", "times", "(I)J"⟩, 44), (⟨"LoomDeskModel", "look", "(JI)I"⟩, 44), (⟨"LoomDeskModel", "brakes", "()V"⟩, 44), (⟨"LoomDeskModel", "comes", "(I)V"⟩, 44), (⟨"LoomDeskModel", "record", "(Z)V"⟩, 44), (⟨"LoomDeskModel", "beatUp", "()V"⟩, 44), (⟨"LoomDeskModel", "goesBack", "(I)V"⟩, 44), (⟨"LoomDeskModel", "unpicks", "()V"⟩, 44)]
theorem lw_r3 : ∀ q ∈ lw_privs_3, lw_okq q := List.forall_mem_cons.mpr ⟨lw_p32, List.forall_mem_cons.mpr ⟨lw_p33, List.forall_mem_cons.mpr ⟨lw_p34, List.forall_mem_cons.mpr ⟨lw_p35, List.forall_mem_cons.mpr ⟨lw_p36, List.forall_mem_cons.mpr ⟨lw_p37, List.forall_mem_cons.mpr ⟨lw_p38, List.forall_mem_cons.mpr ⟨lw_p39, List.forall_mem_cons.mpr ⟨lw_p40, List.forall_mem_cons.mpr ⟨lw_p41, List.forall_mem_cons.mpr ⟨lw_p42, fun _ h => absurd h List.not_mem_nil⟩⟩⟩⟩⟩⟩⟩⟩⟩⟩⟩
def lw_privs : List (MethodName × Nat) := lw_privs_1 ++ (lw_privs_2 ++ (lw_privs_3))
def lw_tbl : List Cond := k2_sels lw_privs ++ tables_1
theorem lw_privs_ok : ∀ q ∈ lw_privs, lw_okq q := by
  show ∀ q ∈ lw_privs_1 ++ (lw_privs_2 ++ (lw_privs_3)), lw_okq q
  exact List.forall_mem_append.mpr ⟨lw_r1, List.forall_mem_append.mpr ⟨lw_r2, lw_r3⟩⟩
end
section
/-! ===== BEGIN words of one list among another's, by their places ===== -/
theorem goodIn_r {big : List Cond} (ws : List Cond) (ps : List Nat) (hp : ws = ps.filterMap (fun i => big[i]?)) (h : ws.all goodWord = true) : GoodIn big ws := by
  intro w hw
  have h1 := List.all_eq_true.mp h w hw
  rw [hp] at hw
  obtain ⟨i, -, hi⟩ := List.mem_filterMap.mp hw
  have hm : w ∈ big := by first | exact List.mem_of_getElem? hi | exact List.getElem?_mem hi
  exact ⟨hm, good_of_word h1⟩
theorem goodIn_app {big a b : List Cond} (ha : GoodIn big a) (hb : GoodIn big b) : GoodIn big (a ++ b) := fun w h => (List.mem_append.mp h).elim (ha w) (hb w)
theorem goodIn_ca {big a b : List Cond} {c : Cond} (ha : GoodIn big (c :: a)) (hb : GoodIn big b) : GoodIn big (c :: (a ++ b)) := fun w h => (List.mem_cons.mp h).elim (fun e => ha w (List.mem_cons.mpr (Or.inl e))) (fun h => (List.mem_append.mp h).elim (fun h => ha w (List.mem_cons.mpr (Or.inr h))) (hb w))
theorem goodIn_sub {big ws : List Cond} (hm : ∀ w ∈ ws, w ∈ big) (h : ws.all goodWord = true) : GoodIn big ws := fun w hw => ⟨hm w hw, good_of_word (List.all_eq_true.mp h w hw)⟩
/-! ===== END ===== -/
def vx_no (w : Cond) : Bool := decide (w ≠ .isRef (.static Bundle.tN "UNASSIGNED_STACK" Bundle.steD)) && decide (w ≠ .isRef (.static Bundle.tN "SUPPRESSED_SENTINEL" Bundle.listD)) && decide (w ≠ .laysStatic Bundle.tN "UNASSIGNED_STACK" Bundle.steD) && decide (w ≠ .laysStatic Bundle.tN "SUPPRESSED_SENTINEL" Bundle.listD)
def vx_at0 (own : String) (ic : Nat) (X : String) (names : List String) : List Cond := (Bundle.ownAtoms0 own ic X names).filter vx_no
def vx_atS (own : String) (ic : Nat) (X : String) (names : List String) : List Cond := (Bundle.ownAtoms own ic X names).filter vx_no
end
section
/-! ===== BEGIN printed: names, fields, word lists, decode rows ===== -/
def RX0 : String := "LoomDesk$Cloth"
def TX0 : u_T := fun k => match k with
  | 0 => ("LoomDesk$Cloth", "sheds", "[I", true)
  | 1 => ("LoomDesk$Cloth", "carriers", "[I", true)
  | 2 => ("LoomDesk$Cloth", "densities", "[I", true)
  | 3 => ("LoomDesk$Cloth", "next", "I", false)
  | 4 => ("LoomDesk$Cloth", "kept", "I", false)
  | 5 => ("LoomDesk$Cloth", "beaten", "J", false)
  | _ => ("LoomDesk$Cloth", "taken", "J", false)
def tyX0 : Nat → FieldType := fun k => match k with
  | 0 => .array .int
  | 1 => .array .int
  | 2 => .array .int
  | 3 => .int
  | 4 => .int
  | 5 => .long
  | _ => .long
abbrev wsX00 : List Cond := u_ws RX0 TX0 7
theorem nmX0 : ∀ a, a < 7 → ∀ b, b < 7 → a ≠ b → (TX0 a).2.1 ≠ (TX0 b).2.1 := by decide +kernel
theorem tyX0_ok : ∀ k, k < 7 → parseFieldDescriptor (TX0 k).2.2.1 = some (tyX0 k) := by decide +kernel
abbrev cX0_init : ByteArray := prog_2_method_1_code
def yX0_init : MethodName := ⟨RX0, "<init>", "()V"⟩
abbrev cX0_beatUp : ByteArray := prog_2_method_2_code
def yX0_beatUp : MethodName := ⟨RX0, "beatUp", "(III)V"⟩
abbrev cX0_takeOff : ByteArray := prog_2_method_3_code
def yX0_takeOff : MethodName := ⟨RX0, "takeOff", "()Z"⟩
abbrev cX0_forget : ByteArray := prog_2_method_4_code
def yX0_forget : MethodName := ⟨RX0, "forget", "()V"⟩
abbrev cX0_tell : ByteArray := prog_2_method_5_code
def yX0_tell : MethodName := ⟨RX0, "tell", "(II)I"⟩
abbrev cX0_slotOf : ByteArray := prog_2_method_6_code
def yX0_slotOf : MethodName := ⟨RX0, "slotOf", "(I)I"⟩
abbrev cX0_quarters : ByteArray := prog_2_method_7_code
def yX0_quarters : MethodName := ⟨RX0, "quarters", "(I)I"⟩
def RX1 : String := "LoomDesk$Pattern"
def TX1 : u_T := fun k => match k with
  | 0 => ("LoomDesk$Pattern", "kinds", "[I", true)
  | 1 => ("LoomDesk$Pattern", "values", "[I", true)
  | 2 => ("LoomDesk$Pattern", "ends", "[I", true)
  | 3 => ("LoomDesk$Pattern", "insides", "[J", true)
  | 4 => ("LoomDesk$Pattern", "carriers", "[I", true)
  | 5 => ("LoomDesk$Pattern", "densities", "[I", true)
  | 6 => ("LoomDesk$Pattern", "size", "I", false)
  | 7 => ("LoomDesk$Pattern", "picks", "J", false)
  | 8 => ("LoomDesk$Pattern", "ahead", "J", false)
  | 9 => ("LoomDesk$Pattern", "carrier", "I", false)
  | _ => ("LoomDesk$Pattern", "density", "I", false)
def tyX1 : Nat → FieldType := fun k => match k with
  | 0 => .array .int
  | 1 => .array .int
  | 2 => .array .int
  | 3 => .array .long
  | 4 => .array .int
  | 5 => .array .int
  | 6 => .int
  | 7 => .long
  | 8 => .long
  | 9 => .int
  | _ => .int
abbrev wsX10 : List Cond := u_ws RX1 TX1 11
theorem nmX1 : ∀ a, a < 11 → ∀ b, b < 11 → a ≠ b → (TX1 a).2.1 ≠ (TX1 b).2.1 := by decide +kernel
theorem tyX1_ok : ∀ k, k < 11 → parseFieldDescriptor (TX1 k).2.2.1 = some (tyX1 k) := by decide +kernel
abbrev cX1_init : ByteArray := prog_3_method_1_code
def yX1_init : MethodName := ⟨RX1, "<init>", "()V"⟩
abbrev cX1_has : ByteArray := prog_3_method_2_code
def yX1_has : MethodName := ⟨RX1, "has", "(J)Z"⟩
abbrev cX1_behind : ByteArray := prog_3_method_3_code
def yX1_behind : MethodName := ⟨RX1, "behind", "(J)J"⟩
abbrev cX1_before : ByteArray := prog_3_method_4_code
def yX1_before : MethodName := ⟨RX1, "before", "(J)J"⟩
abbrev cX1_clear : ByteArray := prog_3_method_5_code
def yX1_clear : MethodName := ⟨RX1, "clear", "()V"⟩
abbrev cX1_add : ByteArray := prog_3_method_6_code
def yX1_add : MethodName := ⟨RX1, "add", "(II)V"⟩
abbrev cX1_end : ByteArray := prog_3_method_7_code
def yX1_end : MethodName := ⟨RX1, "end", "(IJII)I"⟩
abbrev cX1_tell : ByteArray := prog_3_method_8_code
def yX1_tell : MethodName := ⟨RX1, "tell", "(JI)I"⟩
abbrev cX1_tellHere : ByteArray := prog_3_method_9_code
def yX1_tellHere : MethodName := ⟨RX1, "tellHere", "(II)I"⟩
abbrev cX1_pass : ByteArray := prog_3_method_10_code
def yX1_pass : MethodName := ⟨RX1, "pass", "(I)I"⟩
abbrev cX1_passBracket : ByteArray := prog_3_method_11_code
def yX1_passBracket : MethodName := ⟨RX1, "passBracket", "(I)I"⟩
def RX2 : String := "LoomDesk$Reader"
def TX2 : u_T := fun k => match k with
  | 0 => ("LoomDesk$Reader", "tape", "LLoomDesk$Tape;", true)
  | 1 => ("LoomDesk$Reader", "goal", "LLoomDesk$Pattern;", false)
  | 2 => ("LoomDesk$Reader", "pos", "I", false)
  | 3 => ("LoomDesk$Reader", "fault", "I", false)
  | 4 => ("LoomDesk$Reader", "depth", "I", false)
  | 5 => ("LoomDesk$Reader", "items", "[I", true)
  | 6 => ("LoomDesk$Reader", "picks", "[J", true)
  | 7 => ("LoomDesk$Reader", "carriers", "[I", true)
  | _ => ("LoomDesk$Reader", "densities", "[I", true)
def tyX2 : Nat → FieldType := fun k => match k with
  | 0 => .object "LoomDesk$Tape"
  | 1 => .object "LoomDesk$Pattern"
  | 2 => .int
  | 3 => .int
  | 4 => .int
  | 5 => .array .int
  | 6 => .array .long
  | 7 => .array .int
  | _ => .array .int
abbrev wsX20 : List Cond := u_ws RX2 TX2 9
theorem nmX2 : ∀ a, a < 9 → ∀ b, b < 9 → a ≠ b → (TX2 a).2.1 ≠ (TX2 b).2.1 := by decide +kernel
theorem tyX2_ok : ∀ k, k < 9 → parseFieldDescriptor (TX2 k).2.2.1 = some (tyX2 k) := by decide +kernel
abbrev cX2_init : ByteArray := prog_4_method_1_code
def yX2_init : MethodName := ⟨RX2, "<init>", "()V"⟩
abbrev cX2_exchange : ByteArray := prog_4_method_2_code
def yX2_exchange : MethodName := ⟨RX2, "exchange", "(LLoomDesk$Pattern;)LLoomDesk$Pattern;"⟩
abbrev cX2_read : ByteArray := prog_4_method_3_code
def yX2_read : MethodName := ⟨RX2, "read", "()I"⟩
abbrev cX2_readItem : ByteArray := prog_4_method_4_code
def yX2_readItem : MethodName := ⟨RX2, "readItem", "()V"⟩
abbrev cX2_readPick : ByteArray := prog_4_method_5_code
def yX2_readPick : MethodName := ⟨RX2, "readPick", "()V"⟩
abbrev cX2_readCarrier : ByteArray := prog_4_method_6_code
def yX2_readCarrier : MethodName := ⟨RX2, "readCarrier", "()V"⟩
abbrev cX2_readDensity : ByteArray := prog_4_method_7_code
def yX2_readDensity : MethodName := ⟨RX2, "readDensity", "()V"⟩
abbrev cX2_readRepeat : ByteArray := prog_4_method_8_code
def yX2_readRepeat : MethodName := ⟨RX2, "readRepeat", "()V"⟩
abbrev cX2_open : ByteArray := prog_4_method_9_code
def yX2_open : MethodName := ⟨RX2, "open", "(II)V"⟩
abbrev cX2_close : ByteArray := prog_4_method_10_code
def yX2_close : MethodName := ⟨RX2, "close", "()V"⟩
abbrev cX2_beginLevel : ByteArray := prog_4_method_11_code
def yX2_beginLevel : MethodName := ⟨RX2, "beginLevel", "()V"⟩
abbrev cX2_addPicks : ByteArray := prog_4_method_12_code
def yX2_addPicks : MethodName := ⟨RX2, "addPicks", "(J)V"⟩
abbrev cX2_readDigits : ByteArray := prog_4_method_13_code
def yX2_readDigits : MethodName := ⟨RX2, "readDigits", "(II)I"⟩
abbrev cX2_digitOf : ByteArray := prog_4_method_14_code
def yX2_digitOf : MethodName := ⟨RX2, "digitOf", "(I)I"⟩
abbrev cX2_isAllowed : ByteArray := prog_4_method_15_code
def yX2_isAllowed : MethodName := ⟨RX2, "isAllowed", "(I)Z"⟩
abbrev cX2_faultAt : ByteArray := prog_4_method_16_code
def yX2_faultAt : MethodName := ⟨RX2, "faultAt", "(I)V"⟩
def RX3 : String := "LoomDesk$Records"
def TX3 : u_T := fun k => match k with
  | 0 => ("LoomDesk$Records", "marks", "[I", true)
  | 1 => ("LoomDesk$Records", "places", "[J", true)
  | _ => ("LoomDesk$Records", "last", "I", false)
def tyX3 : Nat → FieldType := fun k => match k with
  | 0 => .array .int
  | 1 => .array .long
  | _ => .int
abbrev wsX30 : List Cond := u_ws RX3 TX3 3
theorem nmX3 : ∀ a, a < 3 → ∀ b, b < 3 → a ≠ b → (TX3 a).2.1 ≠ (TX3 b).2.1 := by decide +kernel
theorem tyX3_ok : ∀ k, k < 3 → parseFieldDescriptor (TX3 k).2.2.1 = some (tyX3 k) := by decide +kernel
abbrev cX3_init : ByteArray := prog_5_method_1_code
def yX3_init : MethodName := ⟨RX3, "<init>", "()V"⟩
abbrev cX3_write : ByteArray := prog_5_method_2_code
def yX3_write : MethodName := ⟨RX3, "write", "(IJ)V"⟩
abbrev cX3_spoilLast : ByteArray := prog_5_method_3_code
def yX3_spoilLast : MethodName := ⟨RX3, "spoilLast", "()V"⟩
abbrev cX3_clear : ByteArray := prog_5_method_4_code
def yX3_clear : MethodName := ⟨RX3, "clear", "()V"⟩
abbrev cX3_newest : ByteArray := prog_5_method_5_code
def yX3_newest : MethodName := ⟨RX3, "newest", "()I"⟩
abbrev cX3_markOf : ByteArray := prog_5_method_6_code
def yX3_markOf : MethodName := ⟨RX3, "markOf", "(I)I"⟩
abbrev cX3_placeOf : ByteArray := prog_5_method_7_code
def yX3_placeOf : MethodName := ⟨RX3, "placeOf", "(I)J"⟩
abbrev cX3_other : ByteArray := prog_5_method_8_code
def yX3_other : MethodName := ⟨RX3, "other", "()I"⟩
def RX4 : String := "LoomDesk$Shaft"
def TX4 : u_T := fun k => match k with
  | 0 => ("LoomDesk$Shaft", "at", "I", false)
  | 1 => ("LoomDesk$Shaft", "mode", "I", false)
  | 2 => ("LoomDesk$Shaft", "toGo", "I", false)
  | 3 => ("LoomDesk$Shaft", "pace", "I", false)
  | 4 => ("LoomDesk$Shaft", "orders", "I", false)
  | _ => ("LoomDesk$Shaft", "turns", "J", false)
def tyX4 : Nat → FieldType := fun k => match k with
  | 0 => .int
  | 1 => .int
  | 2 => .int
  | 3 => .int
  | 4 => .int
  | _ => .long
abbrev wsX40 : List Cond := u_ws RX4 TX4 6
theorem nmX4 : ∀ a, a < 6 → ∀ b, b < 6 → a ≠ b → (TX4 a).2.1 ≠ (TX4 b).2.1 := by decide +kernel
theorem tyX4_ok : ∀ k, k < 6 → parseFieldDescriptor (TX4 k).2.2.1 = some (tyX4 k) := by decide +kernel
abbrev cX4_init : ByteArray := prog_6_method_1_code
def yX4_init : MethodName := ⟨RX4, "<init>", "()V"⟩
abbrev cX4_stands : ByteArray := prog_6_method_2_code
def yX4_stands : MethodName := ⟨RX4, "stands", "()Z"⟩
abbrev cX4_stand : ByteArray := prog_6_method_3_code
def yX4_stand : MethodName := ⟨RX4, "stand", "()V"⟩
abbrev cX4_orderBrake : ByteArray := prog_6_method_4_code
def yX4_orderBrake : MethodName := ⟨RX4, "orderBrake", "()Z"⟩
abbrev cX4_markAbove : ByteArray := prog_6_method_5_code
def yX4_markAbove : MethodName := ⟨RX4, "markAbove", "()I"⟩
abbrev cX4_markBelow : ByteArray := prog_6_method_6_code
def yX4_markBelow : MethodName := ⟨RX4, "markBelow", "(I)I"⟩
abbrev cX4_goTowards : ByteArray := prog_6_method_7_code
def yX4_goTowards : MethodName := ⟨RX4, "goTowards", "(II)I"⟩
abbrev cX4_standWhenSpent : ByteArray := prog_6_method_8_code
def yX4_standWhenSpent : MethodName := ⟨RX4, "standWhenSpent", "()V"⟩
def RX5 : String := "LoomDesk$Tape"
def TX5 : u_T := fun k => match k with
  | 0 => ("LoomDesk$Tape", "chars", "[I", true)
  | _ => ("LoomDesk$Tape", "size", "I", false)
def tyX5 : Nat → FieldType := fun k => match k with
  | 0 => .array .int
  | _ => .int
abbrev wsX50 : List Cond := u_ws RX5 TX5 2
theorem nmX5 : ∀ a, a < 2 → ∀ b, b < 2 → a ≠ b → (TX5 a).2.1 ≠ (TX5 b).2.1 := by decide +kernel
theorem tyX5_ok : ∀ k, k < 2 → parseFieldDescriptor (TX5 k).2.2.1 = some (tyX5 k) := by decide +kernel
abbrev cX5_init : ByteArray := prog_7_method_1_code
def yX5_init : MethodName := ⟨RX5, "<init>", "()V"⟩
abbrev cX5_put : ByteArray := prog_7_method_2_code
def yX5_put : MethodName := ⟨RX5, "put", "(JI)Z"⟩
abbrev cX5_charOf : ByteArray := prog_7_method_3_code
def yX5_charOf : MethodName := ⟨RX5, "charOf", "(I)I"⟩
abbrev cX5_behindBlanks : ByteArray := prog_7_method_4_code
def yX5_behindBlanks : MethodName := ⟨RX5, "behindBlanks", "(I)I"⟩
abbrev cX5_clear : ByteArray := prog_7_method_5_code
def yX5_clear : MethodName := ⟨RX5, "clear", "()V"⟩
abbrev cX5_add : ByteArray := prog_7_method_6_code
def yX5_add : MethodName := ⟨RX5, "add", "(I)V"⟩
abbrev cX5_byteOf : ByteArray := prog_7_method_7_code
def yX5_byteOf : MethodName := ⟨RX5, "byteOf", "(JI)I"⟩
def RX6 : String := "LoomDesk"
def TX6 : u_T := fun k => match k with
  | 0 => ("LoomDesk", "reader", "LLoomDesk$Reader;", true)
  | 1 => ("LoomDesk", "shaft", "LLoomDesk$Shaft;", true)
  | 2 => ("LoomDesk", "woven", "LLoomDesk$Cloth;", true)
  | 3 => ("LoomDesk", "records", "LLoomDesk$Records;", true)
  | 4 => ("LoomDesk", "pattern", "LLoomDesk$Pattern;", false)
  | 5 => ("LoomDesk", "place", "J", false)
  | 6 => ("LoomDesk", "shed", "I", false)
  | 7 => ("LoomDesk", "carrier", "I", false)
  | 8 => ("LoomDesk", "pick", "I", false)
  | 9 => ("LoomDesk", "missed", "I", false)
  | 10 => ("LoomDesk", "breakTold", "Z", false)
  | _ => ("LoomDesk", "power", "Z", false)
def tyX6 : Nat → FieldType := fun k => match k with
  | 0 => .object "LoomDesk$Reader"
  | 1 => .object "LoomDesk$Shaft"
  | 2 => .object "LoomDesk$Cloth"
  | 3 => .object "LoomDesk$Records"
  | 4 => .object "LoomDesk$Pattern"
  | 5 => .long
  | 6 => .int
  | 7 => .int
  | 8 => .int
  | 9 => .int
  | 10 => .boolean
  | _ => .boolean
abbrev wsX60 : List Cond := u_ws RX6 TX6 12
theorem nmX6 : ∀ a, a < 12 → ∀ b, b < 12 → a ≠ b → (TX6 a).2.1 ≠ (TX6 b).2.1 := by decide +kernel
theorem tyX6_ok : ∀ k, k < 12 → parseFieldDescriptor (TX6 k).2.2.1 = some (tyX6 k) := by decide +kernel
abbrev cX6_init : ByteArray := prog_1_method_1_code
def yX6_init : MethodName := ⟨RX6, "<init>", "()V"⟩
abbrev cX6_type : ByteArray := prog_1_method_2_code
def yX6_type : MethodName := ⟨RX6, "type", "(JI)Z"⟩
abbrev cX6_compile : ByteArray := prog_1_method_3_code
def yX6_compile : MethodName := ⟨RX6, "compile", "()I"⟩
abbrev cX6_length : ByteArray := prog_1_method_4_code
def yX6_length : MethodName := ⟨RX6, "length", "()J"⟩
abbrev cX6_design : ByteArray := prog_1_method_5_code
def yX6_design : MethodName := ⟨RX6, "design", "(JI)I"⟩
abbrev cX6_start : ByteArray := prog_1_method_6_code
def yX6_start : MethodName := ⟨RX6, "start", "()Z"⟩
abbrev cX6_stop : ByteArray := prog_1_method_7_code
def yX6_stop : MethodName := ⟨RX6, "stop", "()Z"⟩
abbrev cX6_turn : ByteArray := prog_1_method_8_code
def yX6_turn : MethodName := ⟨RX6, "turn", "(D)D"⟩
abbrev cX6_back : ByteArray := prog_1_method_9_code
def yX6_back : MethodName := ⟨RX6, "back", "(D)D"⟩
abbrev cX6_weft : ByteArray := prog_1_method_10_code
def yX6_weft : MethodName := ⟨RX6, "weft", "(Z)Z"⟩
abbrev cX6_findPick : ByteArray := prog_1_method_11_code
def yX6_findPick : MethodName := ⟨RX6, "findPick", "()Z"⟩
abbrev cX6_jump : ByteArray := prog_1_method_12_code
def yX6_jump : MethodName := ⟨RX6, "jump", "(J)Z"⟩
abbrev cX6_speed : ByteArray := prog_1_method_13_code
def yX6_speed : MethodName := ⟨RX6, "speed", "(F)Z"⟩
abbrev cX6_cut : ByteArray := prog_1_method_14_code
def yX6_cut : MethodName := ⟨RX6, "cut", "(Z)Z"⟩
abbrev cX6_on : ByteArray := prog_1_method_15_code
def yX6_on : MethodName := ⟨RX6, "on", "()Z"⟩
abbrev cX6_angle : ByteArray := prog_1_method_16_code
def yX6_angle : MethodName := ⟨RX6, "angle", "()D"⟩
abbrev cX6_left : ByteArray := prog_1_method_17_code
def yX6_left : MethodName := ⟨RX6, "left", "()F"⟩
abbrev cX6_roll : ByteArray := prog_1_method_18_code
def yX6_roll : MethodName := ⟨RX6, "roll", "(D)D"⟩
abbrev cX6_letOff : ByteArray := prog_1_method_19_code
def yX6_letOff : MethodName := ⟨RX6, "letOff", "(F)I"⟩
abbrev cX6_state : ByteArray := prog_1_method_20_code
def yX6_state : MethodName := ⟨RX6, "state", "(I)I"⟩
abbrev cX6_count : ByteArray := prog_1_method_21_code
def yX6_count : MethodName := ⟨RX6, "count", "(I)J"⟩
abbrev cX6_cloth : ByteArray := prog_1_method_22_code
def yX6_cloth : MethodName := ⟨RX6, "cloth", "(II)I"⟩
abbrev cX6_degrees : ByteArray := prog_1_method_23_code
def yX6_degrees : MethodName := ⟨RX6, "degrees", "(I)D"⟩
abbrev cX6_sixteenths : ByteArray := prog_1_method_24_code
def yX6_sixteenths : MethodName := ⟨RX6, "sixteenths", "(D)I"⟩
abbrev cX6_goForwards : ByteArray := prog_1_method_25_code
def yX6_goForwards : MethodName := ⟨RX6, "goForwards", "(I)I"⟩
abbrev cX6_comeTo : ByteArray := prog_1_method_26_code
def yX6_comeTo : MethodName := ⟨RX6, "comeTo", "(I)V"⟩
abbrev cX6_insert : ByteArray := prog_1_method_27_code
def yX6_insert : MethodName := ⟨RX6, "insert", "()V"⟩
abbrev cX6_endTurn : ByteArray := prog_1_method_28_code
def yX6_endTurn : MethodName := ⟨RX6, "endTurn", "()V"⟩
abbrev cX6_goBackwards : ByteArray := prog_1_method_29_code
def yX6_goBackwards : MethodName := ⟨RX6, "goBackwards", "(I)V"⟩
abbrev cX6_undo : ByteArray := prog_1_method_30_code
def yX6_undo : MethodName := ⟨RX6, "undo", "(I)V"⟩
abbrev cX6_reopenTurn : ByteArray := prog_1_method_31_code
def yX6_reopenTurn : MethodName := ⟨RX6, "reopenTurn", "()V"⟩
abbrev cX6_recall : ByteArray := prog_1_method_32_code
def yX6_recall : MethodName := ⟨RX6, "recall", "()J"⟩
def RX7 : String := "LoomDeskModel"
def TX7 : u_T := fun k => match k with
  | 0 => ("LoomDeskModel", "thrown", "I", false)
  | 1 => ("LoomDeskModel", "tape", "[I", true)
  | 2 => ("LoomDeskModel", "typed", "I", false)
  | 3 => ("LoomDeskModel", "kind", "[I", true)
  | 4 => ("LoomDeskModel", "value", "[I", true)
  | 5 => ("LoomDeskModel", "end", "[I", true)
  | 6 => ("LoomDeskModel", "carrierOut", "[I", true)
  | 7 => ("LoomDeskModel", "densityOut", "[I", true)
  | 8 => ("LoomDeskModel", "picks", "[J", true)
  | 9 => ("LoomDeskModel", "items", "I", false)
  | 10 => ("LoomDeskModel", "length", "J", false)
  | 11 => ("LoomDeskModel", "newKind", "[I", true)
  | 12 => ("LoomDeskModel", "newValue", "[I", true)
  | 13 => ("LoomDeskModel", "newEnd", "[I", true)
  | 14 => ("LoomDeskModel", "newItems", "I", false)
  | 15 => ("LoomDeskModel", "at", "I", false)
  | 16 => ("LoomDeskModel", "open", "[I", true)
  | 17 => ("LoomDeskModel", "before", "[I", true)
  | 18 => ("LoomDeskModel", "opens", "I", false)
  | 19 => ("LoomDeskModel", "seen", "I", false)
  | 20 => ("LoomDeskModel", "power", "Z", false)
  | 21 => ("LoomDeskModel", "mode", "I", false)
  | 22 => ("LoomDeskModel", "angle", "I", false)
  | 23 => ("LoomDeskModel", "left", "I", false)
  | 24 => ("LoomDeskModel", "speed", "I", false)
  | 25 => ("LoomDeskModel", "place", "J", false)
  | 26 => ("LoomDeskModel", "shed", "I", false)
  | 27 => ("LoomDeskModel", "carrier", "I", false)
  | 28 => ("LoomDeskModel", "pick", "I", false)
  | 29 => ("LoomDeskModel", "broken", "Z", false)
  | 30 => ("LoomDeskModel", "missed", "I", false)
  | 31 => ("LoomDeskModel", "orders", "I", false)
  | 32 => ("LoomDeskModel", "quarters", "J", false)
  | 33 => ("LoomDeskModel", "beaten", "J", false)
  | 34 => ("LoomDeskModel", "turns", "J", false)
  | 35 => ("LoomDeskModel", "clothShed", "[I", true)
  | 36 => ("LoomDeskModel", "clothCarrier", "[I", true)
  | 37 => ("LoomDeskModel", "clothDensity", "[I", true)
  | 38 => ("LoomDeskModel", "cloths", "I", false)
  | 39 => ("LoomDeskModel", "there", "[Z", true)
  | 40 => ("LoomDeskModel", "upper", "[Z", true)
  | 41 => ("LoomDeskModel", "recorded", "[J", true)
  | 42 => ("LoomDeskModel", "written", "I", false)
  | _ => ("LoomDeskModel", "wants", "Z", false)
def tyX7 : Nat → FieldType := fun k => match k with
  | 0 => .int
  | 1 => .array .int
  | 2 => .int
  | 3 => .array .int
  | 4 => .array .int
  | 5 => .array .int
  | 6 => .array .int
  | 7 => .array .int
  | 8 => .array .long
  | 9 => .int
  | 10 => .long
  | 11 => .array .int
  | 12 => .array .int
  | 13 => .array .int
  | 14 => .int
  | 15 => .int
  | 16 => .array .int
  | 17 => .array .int
  | 18 => .int
  | 19 => .int
  | 20 => .boolean
  | 21 => .int
  | 22 => .int
  | 23 => .int
  | 24 => .int
  | 25 => .long
  | 26 => .int
  | 27 => .int
  | 28 => .int
  | 29 => .boolean
  | 30 => .int
  | 31 => .int
  | 32 => .long
  | 33 => .long
  | 34 => .long
  | 35 => .array .int
  | 36 => .array .int
  | 37 => .array .int
  | 38 => .int
  | 39 => .array .boolean
  | 40 => .array .boolean
  | 41 => .array .long
  | 42 => .int
  | _ => .boolean
abbrev wsX70 : List Cond := u_ws RX7 TX7 44
theorem nmX7 : ∀ a, a < 44 → ∀ b, b < 44 → a ≠ b → (TX7 a).2.1 ≠ (TX7 b).2.1 := by decide +kernel
theorem tyX7_ok : ∀ k, k < 44 → parseFieldDescriptor (TX7 k).2.2.1 = some (tyX7 k) := by decide +kernel
abbrev cX7_init : ByteArray := prog_9_method_1_code
def yX7_init : MethodName := ⟨RX7, "<init>", "()V"⟩
abbrev cX7_thrown : ByteArray := prog_9_method_2_code
def yX7_thrown : MethodName := ⟨RX7, "thrown", "()I"⟩
abbrev cX7_type : ByteArray := prog_9_method_3_code
def yX7_type : MethodName := ⟨RX7, "type", "(JI)Z"⟩
abbrev cX7_see : ByteArray := prog_9_method_4_code
def yX7_see : MethodName := ⟨RX7, "see", "()I"⟩
abbrev cX7_skip : ByteArray := prog_9_method_5_code
def yX7_skip : MethodName := ⟨RX7, "skip", "()V"⟩
abbrev cX7_digit : ByteArray := prog_9_method_6_code
def yX7_digit : MethodName := ⟨RX7, "digit", "(I)I"⟩
abbrev cX7_item : ByteArray := prog_9_method_7_code
def yX7_item : MethodName := ⟨RX7, "item", "(II)V"⟩
abbrev cX7_isDensity : ByteArray := prog_9_method_8_code
def yX7_isDensity : MethodName := ⟨RX7, "isDensity", "(I)Z"⟩
abbrev cX7_readsWord : ByteArray := prog_9_method_9_code
def yX7_readsWord : MethodName := ⟨RX7, "readsWord", "(I)Z"⟩
abbrev cX7_readsOpening : ByteArray := prog_9_method_10_code
def yX7_readsOpening : MethodName := ⟨RX7, "readsOpening", "(I)Z"⟩
abbrev cX7_reads : ByteArray := prog_9_method_11_code
def yX7_reads : MethodName := ⟨RX7, "reads", "()Z"⟩
abbrev cX7_sum : ByteArray := prog_9_method_12_code
def yX7_sum : MethodName := ⟨RX7, "sum", "(JJ)J"⟩
abbrev cX7_times : ByteArray := prog_9_method_13_code
def yX7_times : MethodName := ⟨RX7, "times", "(I)J"⟩
abbrev cX7_isBracket : ByteArray := prog_9_method_14_code
def yX7_isBracket : MethodName := ⟨RX7, "isBracket", "(I)Z"⟩
abbrev cX7_reckon : ByteArray := prog_9_method_15_code
def yX7_reckon : MethodName := ⟨RX7, "reckon", "()V"⟩
abbrev cX7_swap : ByteArray := prog_9_method_16_code
def yX7_swap : MethodName := ⟨RX7, "swap", "()V"⟩
abbrev cX7_compile : ByteArray := prog_9_method_17_code
def yX7_compile : MethodName := ⟨RX7, "compile", "()I"⟩
abbrev cX7_length : ByteArray := prog_9_method_18_code
def yX7_length : MethodName := ⟨RX7, "length", "()J"⟩
abbrev cX7_look : ByteArray := prog_9_method_19_code
def yX7_look : MethodName := ⟨RX7, "look", "(JI)I"⟩
abbrev cX7_design : ByteArray := prog_9_method_20_code
def yX7_design : MethodName := ⟨RX7, "design", "(JI)I"⟩
abbrev cX7_start : ByteArray := prog_9_method_21_code
def yX7_start : MethodName := ⟨RX7, "start", "()Z"⟩
abbrev cX7_brakes : ByteArray := prog_9_method_22_code
def yX7_brakes : MethodName := ⟨RX7, "brakes", "()V"⟩
abbrev cX7_stop : ByteArray := prog_9_method_23_code
def yX7_stop : MethodName := ⟨RX7, "stop", "()Z"⟩
abbrev cX7_record : ByteArray := prog_9_method_24_code
def yX7_record : MethodName := ⟨RX7, "record", "(Z)V"⟩
abbrev cX7_beatUp : ByteArray := prog_9_method_25_code
def yX7_beatUp : MethodName := ⟨RX7, "beatUp", "()V"⟩
abbrev cX7_comes : ByteArray := prog_9_method_26_code
def yX7_comes : MethodName := ⟨RX7, "comes", "(I)V"⟩
abbrev cX7_above : ByteArray := prog_9_method_27_code
def yX7_above : MethodName := ⟨RX7, "above", "(I)I"⟩
abbrev cX7_turn : ByteArray := prog_9_method_28_code
def yX7_turn : MethodName := ⟨RX7, "turn", "(D)D"⟩
abbrev cX7_notAbove : ByteArray := prog_9_method_29_code
def yX7_notAbove : MethodName := ⟨RX7, "notAbove", "(I)I"⟩
abbrev cX7_unpicks : ByteArray := prog_9_method_30_code
def yX7_unpicks : MethodName := ⟨RX7, "unpicks", "()V"⟩
abbrev cX7_goesBack : ByteArray := prog_9_method_31_code
def yX7_goesBack : MethodName := ⟨RX7, "goesBack", "(I)V"⟩
abbrev cX7_back : ByteArray := prog_9_method_32_code
def yX7_back : MethodName := ⟨RX7, "back", "(D)D"⟩
abbrev cX7_findPick : ByteArray := prog_9_method_33_code
def yX7_findPick : MethodName := ⟨RX7, "findPick", "()Z"⟩
abbrev cX7_weft : ByteArray := prog_9_method_34_code
def yX7_weft : MethodName := ⟨RX7, "weft", "(Z)Z"⟩
abbrev cX7_jump : ByteArray := prog_9_method_35_code
def yX7_jump : MethodName := ⟨RX7, "jump", "(J)Z"⟩
abbrev cX7_speed : ByteArray := prog_9_method_36_code
def yX7_speed : MethodName := ⟨RX7, "speed", "(F)Z"⟩
abbrev cX7_cut : ByteArray := prog_9_method_37_code
def yX7_cut : MethodName := ⟨RX7, "cut", "(Z)Z"⟩
abbrev cX7_on : ByteArray := prog_9_method_38_code
def yX7_on : MethodName := ⟨RX7, "on", "()Z"⟩
abbrev cX7_angle : ByteArray := prog_9_method_39_code
def yX7_angle : MethodName := ⟨RX7, "angle", "()D"⟩
abbrev cX7_left : ByteArray := prog_9_method_40_code
def yX7_left : MethodName := ⟨RX7, "left", "()F"⟩
abbrev cX7_roll : ByteArray := prog_9_method_41_code
def yX7_roll : MethodName := ⟨RX7, "roll", "(D)D"⟩
abbrev cX7_letOff : ByteArray := prog_9_method_42_code
def yX7_letOff : MethodName := ⟨RX7, "letOff", "(F)I"⟩
abbrev cX7_state : ByteArray := prog_9_method_43_code
def yX7_state : MethodName := ⟨RX7, "state", "(I)I"⟩
abbrev cX7_count : ByteArray := prog_9_method_44_code
def yX7_count : MethodName := ⟨RX7, "count", "(I)J"⟩
abbrev cX7_cloth : ByteArray := prog_9_method_45_code
def yX7_cloth : MethodName := ⟨RX7, "cloth", "(II)I"⟩
def RJ9 : String := "java/lang/Math"
def TJ9 : u_T := fun k => match k with
  | _ => ("", "", "", false)
def tyJ9 : Nat → FieldType := fun k => match k with
  | _ => .int
abbrev wsJ90 : List Cond := u_ws RJ9 TJ9 0
theorem nmJ9 : ∀ a, a < 0 → ∀ b, b < 0 → a ≠ b → (TJ9 a).2.1 ≠ (TJ9 b).2.1 := by decide +kernel
theorem tyJ9_ok : ∀ k, k < 0 → parseFieldDescriptor (TJ9 k).2.2.1 = some (tyJ9 k) := by decide +kernel
abbrev cJ9_floorDiv_f86c9 : ByteArray := prog_13_method_49_code
def yJ9_floorDiv_f86c9 : MethodName := ⟨RJ9, "floorDiv", "(JJ)J"⟩
abbrev cJ9_floorMod_7cf53 : ByteArray := prog_13_method_50_code
def yJ9_floorMod_7cf53 : MethodName := ⟨RJ9, "floorMod", "(II)I"⟩
abbrev cJ9_max_f86c9 : ByteArray := prog_13_method_66_code
def yJ9_max_f86c9 : MethodName := ⟨RJ9, "max", "(JJ)J"⟩
abbrev cJ9_min_7cf53 : ByteArray := prog_13_method_69_code
def yJ9_min_7cf53 : MethodName := ⟨RJ9, "min", "(II)I"⟩
abbrev cJ9_min_f86c9 : ByteArray := prog_13_method_70_code
def yJ9_min_f86c9 : MethodName := ⟨RJ9, "min", "(JJ)J"⟩
def RJ0 : String := "java/lang/String"
def TJ0 : u_T := fun k => match k with
  | _ => ("", "", "", false)
def tyJ0 : Nat → FieldType := fun k => match k with
  | _ => .int
abbrev wsJ00 : List Cond := u_ws RJ0 TJ0 0
theorem nmJ0 : ∀ a, a < 0 → ∀ b, b < 0 → a ≠ b → (TJ0 a).2.1 ≠ (TJ0 b).2.1 := by decide +kernel
theorem tyJ0_ok : ∀ k, k < 0 → parseFieldDescriptor (TJ0 k).2.2.1 = some (tyJ0 k) := by decide +kernel
def RL : String := "LoomDeskLaw"
abbrev cL_turn : ByteArray := method_3_code
def yL_turn : MethodName := ⟨RL, "turn", "(LLoomDesk;D[D)I"⟩
abbrev cL_back : ByteArray := method_4_code
def yL_back : MethodName := ⟨RL, "back", "(LLoomDesk;D[D)I"⟩
abbrev cL_law : ByteArray := code
def yL_law : MethodName := ⟨RL, "law", "([I)Z"⟩
def wsX0_init : List Cond := .code yX0_init cX0_init 1 none :: ([.methodLink RX0 3 objectInit, .instanceMethod objectInit, .code objectInit ⟨#[0xb1]⟩ 1 none, .arrayClass .int, .fieldLink RX0 11 "LoomDesk$Cloth" "sheds" "[I", .fieldLink RX0 15 "LoomDesk$Cloth" "carriers" "[I", .fieldLink RX0 18 "LoomDesk$Cloth" "densities" "[I", .fieldLink RX0 21 "LoomDesk$Cloth" "next" "I", .fieldLink RX0 25 "LoomDesk$Cloth" "kept" "I", .fieldLink RX0 28 "LoomDesk$Cloth" "beaten" "J", .fieldLink RX0 32 "LoomDesk$Cloth" "taken" "J"] ++ wsX00)
def wsJ9_floorMod_7cf53 : List Cond := .code yJ9_floorMod_7cf53 cJ9_floorMod_7cf53 3 (some .int) :: ([])
def wsX0_quarters : List Cond := .code yX0_quarters cX0_quarters 1 (some .int) :: ([])
def wsX0_beatUp : List Cond := .code yX0_beatUp cX0_beatUp 5 none :: ([.fieldLink RX0 21 "LoomDesk$Cloth" "next" "I", .fieldLink RX0 11 "LoomDesk$Cloth" "sheds" "[I", .fieldLink RX0 15 "LoomDesk$Cloth" "carriers" "[I", .fieldLink RX0 18 "LoomDesk$Cloth" "densities" "[I", .fieldLink RX0 25 "LoomDesk$Cloth" "kept" "I", .methodLink RX0 41 Lib.Math.min.name, .static Lib.Math.min.name, .initialized "java/lang/Math", .code Lib.Math.min.name Lib.Math.min.code 2 (some .int), .fieldLink RX0 28 "LoomDesk$Cloth" "beaten" "J", .fieldLink RX0 32 "LoomDesk$Cloth" "taken" "J", .methodLink RX0 35 yJ9_floorMod_7cf53, .static yJ9_floorMod_7cf53, .initialized RJ9, .code yJ9_floorMod_7cf53 cJ9_floorMod_7cf53 3 (some .int), .methodLink RX0 44 yX0_quarters, .static yX0_quarters, .initialized RX0, .code yX0_quarters cX0_quarters 1 (some .int)] ++ wsX00)
def wsX0_slotOf : List Cond := .code yX0_slotOf cX0_slotOf 2 (some .int) :: ([.fieldLink RX0 21 "LoomDesk$Cloth" "next" "I", .methodLink RX0 35 yJ9_floorMod_7cf53, .static yJ9_floorMod_7cf53, .initialized RJ9, .code yJ9_floorMod_7cf53 cJ9_floorMod_7cf53 3 (some .int)] ++ wsX00)
def wsX0_takeOff : List Cond := .code yX0_takeOff cX0_takeOff 1 (some .boolean) :: ([.fieldLink RX0 25 "LoomDesk$Cloth" "kept" "I", .fieldLink RX0 21 "LoomDesk$Cloth" "next" "I", .fieldLink RX0 28 "LoomDesk$Cloth" "beaten" "J", .fieldLink RX0 32 "LoomDesk$Cloth" "taken" "J", .fieldLink RX0 18 "LoomDesk$Cloth" "densities" "[I", .methodLink RX0 48 yX0_slotOf, .instanceMethod yX0_slotOf, .selects RX0 yX0_slotOf yX0_slotOf, .initialized RX0, .code yX0_slotOf cX0_slotOf 2 (some .int), .methodLink RX0 35 yJ9_floorMod_7cf53, .static yJ9_floorMod_7cf53, .initialized RJ9, .code yJ9_floorMod_7cf53 cJ9_floorMod_7cf53 3 (some .int), .methodLink RX0 44 yX0_quarters, .static yX0_quarters, .code yX0_quarters cX0_quarters 1 (some .int)] ++ wsX00)
def wsX0_forget : List Cond := .code yX0_forget cX0_forget 1 none :: ([.fieldLink RX0 25 "LoomDesk$Cloth" "kept" "I"] ++ wsX00)
def wsX0_tell : List Cond := .code yX0_tell cX0_tell 4 (some .int) :: ([.fieldLink RX0 25 "LoomDesk$Cloth" "kept" "I", .fieldLink RX0 11 "LoomDesk$Cloth" "sheds" "[I", .fieldLink RX0 15 "LoomDesk$Cloth" "carriers" "[I", .fieldLink RX0 18 "LoomDesk$Cloth" "densities" "[I", .methodLink RX0 48 yX0_slotOf, .instanceMethod yX0_slotOf, .selects RX0 yX0_slotOf yX0_slotOf, .initialized RX0, .code yX0_slotOf cX0_slotOf 2 (some .int), .fieldLink RX0 21 "LoomDesk$Cloth" "next" "I", .methodLink RX0 35 yJ9_floorMod_7cf53, .static yJ9_floorMod_7cf53, .initialized RJ9, .code yJ9_floorMod_7cf53 cJ9_floorMod_7cf53 3 (some .int)] ++ wsX00)
def wsX1_init : List Cond := .code yX1_init cX1_init 1 none :: ([.methodLink RX1 5 objectInit, .instanceMethod objectInit, .code objectInit ⟨#[0xb1]⟩ 1 none, .arrayClass .int, .fieldLink RX1 13 "LoomDesk$Pattern" "kinds" "[I", .fieldLink RX1 17 "LoomDesk$Pattern" "values" "[I", .fieldLink RX1 20 "LoomDesk$Pattern" "ends" "[I", .arrayClass .long, .fieldLink RX1 23 "LoomDesk$Pattern" "insides" "[J", .fieldLink RX1 27 "LoomDesk$Pattern" "carriers" "[I", .fieldLink RX1 30 "LoomDesk$Pattern" "densities" "[I", .fieldLink RX1 33 "LoomDesk$Pattern" "size" "I", .fieldLink RX1 37 "LoomDesk$Pattern" "picks" "J", .fieldLink RX1 41 "LoomDesk$Pattern" "ahead" "J", .fieldLink RX1 44 "LoomDesk$Pattern" "carrier" "I", .fieldLink RX1 47 "LoomDesk$Pattern" "density" "I"] ++ wsX10)
def wsX1_has : List Cond := .code yX1_has cX1_has 3 (some .boolean) :: ([.fieldLink RX1 37 "LoomDesk$Pattern" "picks" "J"] ++ wsX10)
def wsX1_behind : List Cond := .code yX1_behind cX1_behind 3 (some .long) :: ([.methodLink RX1 50 yX1_has, .instanceMethod yX1_has, .selects RX1 yX1_has yX1_has, .initialized RX1, .code yX1_has cX1_has 3 (some .boolean), .fieldLink RX1 37 "LoomDesk$Pattern" "picks" "J"] ++ wsX10)
def wsX1_before : List Cond := .code yX1_before cX1_before 3 (some .long) :: ([.fieldLink RX1 37 "LoomDesk$Pattern" "picks" "J", .methodLink RX1 54 Lib.MathLoose.max_long.x, .static Lib.MathLoose.max_long.x, .initialized "java/lang/Math", .code Lib.MathLoose.max_long.x Lib.MathLoose.max_long.code 4 (some .long), .methodLink RX1 50 yX1_has, .instanceMethod yX1_has, .selects RX1 yX1_has yX1_has, .initialized RX1, .code yX1_has cX1_has 3 (some .boolean)] ++ wsX10)
def wsX1_clear : List Cond := .code yX1_clear cX1_clear 1 none :: ([.fieldLink RX1 33 "LoomDesk$Pattern" "size" "I", .fieldLink RX1 37 "LoomDesk$Pattern" "picks" "J"] ++ wsX10)
def wsX1_add : List Cond := .code yX1_add cX1_add 3 none :: ([.fieldLink RX1 33 "LoomDesk$Pattern" "size" "I", .fieldLink RX1 13 "LoomDesk$Pattern" "kinds" "[I", .fieldLink RX1 17 "LoomDesk$Pattern" "values" "[I"] ++ wsX10)
def wsX1_end : List Cond := .code yX1_end cX1_end 6 (some .int) :: ([.fieldLink RX1 33 "LoomDesk$Pattern" "size" "I", .fieldLink RX1 20 "LoomDesk$Pattern" "ends" "[I", .fieldLink RX1 23 "LoomDesk$Pattern" "insides" "[J", .fieldLink RX1 27 "LoomDesk$Pattern" "carriers" "[I", .fieldLink RX1 30 "LoomDesk$Pattern" "densities" "[I", .fieldLink RX1 17 "LoomDesk$Pattern" "values" "[I"] ++ wsX10)
def wsX1_tellHere : List Cond := .code yX1_tellHere cX1_tellHere 3 (some .int) :: ([.fieldLink RX1 44 "LoomDesk$Pattern" "carrier" "I", .fieldLink RX1 47 "LoomDesk$Pattern" "density" "I"] ++ wsX10)
def wsX1_passBracket : List Cond := .code yX1_passBracket cX1_passBracket 6 (some .int) :: ([.fieldLink RX1 23 "LoomDesk$Pattern" "insides" "[J", .fieldLink RX1 41 "LoomDesk$Pattern" "ahead" "J", .fieldLink RX1 17 "LoomDesk$Pattern" "values" "[I", .fieldLink RX1 13 "LoomDesk$Pattern" "kinds" "[I", .fieldLink RX1 27 "LoomDesk$Pattern" "carriers" "[I", .fieldLink RX1 44 "LoomDesk$Pattern" "carrier" "I", .fieldLink RX1 30 "LoomDesk$Pattern" "densities" "[I", .fieldLink RX1 47 "LoomDesk$Pattern" "density" "I", .fieldLink RX1 20 "LoomDesk$Pattern" "ends" "[I"] ++ wsX10)
def wsX1_pass : List Cond := .code yX1_pass cX1_pass 2 (some .int) :: ([.fieldLink RX1 13 "LoomDesk$Pattern" "kinds" "[I", .fieldLink RX1 41 "LoomDesk$Pattern" "ahead" "J", .fieldLink RX1 17 "LoomDesk$Pattern" "values" "[I", .fieldLink RX1 44 "LoomDesk$Pattern" "carrier" "I", .fieldLink RX1 47 "LoomDesk$Pattern" "density" "I", .methodLink RX1 68 yX1_passBracket, .instanceMethod yX1_passBracket, .selects RX1 yX1_passBracket yX1_passBracket, .initialized RX1, .code yX1_passBracket cX1_passBracket 6 (some .int), .fieldLink RX1 23 "LoomDesk$Pattern" "insides" "[J", .fieldLink RX1 27 "LoomDesk$Pattern" "carriers" "[I", .fieldLink RX1 30 "LoomDesk$Pattern" "densities" "[I", .fieldLink RX1 20 "LoomDesk$Pattern" "ends" "[I"] ++ wsX10)
def wsX1_tell_r1 : List Cond := [Cond.fieldLink RX1 41 "LoomDesk$Pattern" "ahead" "J", Cond.fieldLink RX1 44 "LoomDesk$Pattern" "carrier" "I", Cond.fieldLink RX1 47 "LoomDesk$Pattern" "density" "I", Cond.fieldLink RX1 33 "LoomDesk$Pattern" "size" "I", Cond.fieldLink RX1 13 "LoomDesk$Pattern" "kinds" "[I", Cond.fieldLink RX1 17 "LoomDesk$Pattern" "values" "[I", Cond.methodLink RX1 50 yX1_has, Cond.instanceMethod yX1_has, Cond.selects RX1 yX1_has yX1_has, Cond.initialized RX1, Cond.code yX1_has cX1_has 3 (some .boolean), Cond.fieldLink RX1 37 "LoomDesk$Pattern" "picks" "J", Cond.methodLink RX1 60 yX1_tellHere, Cond.instanceMethod yX1_tellHere, Cond.selects RX1 yX1_tellHere yX1_tellHere, Cond.code yX1_tellHere cX1_tellHere 3 (some .int), Cond.methodLink RX1 64 yX1_pass, Cond.instanceMethod yX1_pass, Cond.selects RX1 yX1_pass yX1_pass, Cond.code yX1_pass cX1_pass 2 (some .int), Cond.methodLink RX1 68 yX1_passBracket, Cond.instanceMethod yX1_passBracket, Cond.selects RX1 yX1_passBracket yX1_passBracket, Cond.code yX1_passBracket cX1_passBracket 6 (some .int)]
def wsX1_tell_r2 : List Cond := [Cond.fieldLink RX1 23 "LoomDesk$Pattern" "insides" "[J", Cond.fieldLink RX1 27 "LoomDesk$Pattern" "carriers" "[I", Cond.fieldLink RX1 30 "LoomDesk$Pattern" "densities" "[I", Cond.fieldLink RX1 20 "LoomDesk$Pattern" "ends" "[I"]
def wsX1_tell : List Cond := .code yX1_tell cX1_tell 6 (some .int) :: ((wsX1_tell_r1 ++ wsX1_tell_r2) ++ wsX10)
def wsX5_init : List Cond := .code yX5_init cX5_init 1 none :: ([.methodLink RX5 3 objectInit, .instanceMethod objectInit, .code objectInit ⟨#[0xb1]⟩ 1 none, .arrayClass .int, .fieldLink RX5 11 "LoomDesk$Tape" "chars" "[I", .fieldLink RX5 15 "LoomDesk$Tape" "size" "I"] ++ wsX50)
def wsX2_init_r1 : List Cond := [Cond.methodLink RX2 3 objectInit, Cond.instanceMethod objectInit, Cond.code objectInit ⟨#[0xb1]⟩ 1 none, Cond.classLink RX2 9 RX5, Cond.instantiable RX5 2, Cond.initialized RX5, Cond.fieldLink RX2 12 "LoomDesk$Reader" "tape" "LLoomDesk$Tape;", Cond.classLink RX2 18 RX1, Cond.instantiable RX1 11, Cond.initialized RX1, Cond.fieldLink RX2 21 "LoomDesk$Reader" "goal" "LLoomDesk$Pattern;", Cond.fieldLink RX2 25 "LoomDesk$Reader" "pos" "I", Cond.fieldLink RX2 29 "LoomDesk$Reader" "fault" "I", Cond.fieldLink RX2 32 "LoomDesk$Reader" "depth" "I", Cond.arrayClass .int, Cond.fieldLink RX2 35 "LoomDesk$Reader" "items" "[I", Cond.arrayClass .long, Cond.fieldLink RX2 39 "LoomDesk$Reader" "picks" "[J", Cond.fieldLink RX2 43 "LoomDesk$Reader" "carriers" "[I", Cond.fieldLink RX2 46 "LoomDesk$Reader" "densities" "[I", Cond.methodLink RX2 11 yX5_init, Cond.instanceMethod yX5_init, Cond.code yX5_init cX5_init 1 none, Cond.methodLink RX5 3 objectInit]
def wsX2_init_r2 : List Cond := [Cond.fieldLink RX5 11 "LoomDesk$Tape" "chars" "[I", Cond.fieldLink RX5 15 "LoomDesk$Tape" "size" "I", Cond.methodLink RX2 20 yX1_init, Cond.instanceMethod yX1_init, Cond.code yX1_init cX1_init 1 none, Cond.methodLink RX1 5 objectInit, Cond.fieldLink RX1 13 "LoomDesk$Pattern" "kinds" "[I", Cond.fieldLink RX1 17 "LoomDesk$Pattern" "values" "[I", Cond.fieldLink RX1 20 "LoomDesk$Pattern" "ends" "[I", Cond.fieldLink RX1 23 "LoomDesk$Pattern" "insides" "[J", Cond.fieldLink RX1 27 "LoomDesk$Pattern" "carriers" "[I", Cond.fieldLink RX1 30 "LoomDesk$Pattern" "densities" "[I", Cond.fieldLink RX1 33 "LoomDesk$Pattern" "size" "I", Cond.fieldLink RX1 37 "LoomDesk$Pattern" "picks" "J", Cond.fieldLink RX1 41 "LoomDesk$Pattern" "ahead" "J", Cond.fieldLink RX1 44 "LoomDesk$Pattern" "carrier" "I", Cond.fieldLink RX1 47 "LoomDesk$Pattern" "density" "I"]
def wsX2_init : List Cond := .code yX2_init cX2_init 1 none :: ((wsX2_init_r1 ++ wsX2_init_r2) ++ wsX50 ++ wsX20 ++ wsX10)
def wsX2_exchange : List Cond := .code yX2_exchange cX2_exchange 3 (some (.object "LoomDesk$Pattern")) :: ([.fieldLink RX2 21 "LoomDesk$Reader" "goal" "LLoomDesk$Pattern;"] ++ wsX20)
def wsX5_charOf : List Cond := .code yX5_charOf cX5_charOf 2 (some .int) :: ([.fieldLink RX5 15 "LoomDesk$Tape" "size" "I", .fieldLink RX5 11 "LoomDesk$Tape" "chars" "[I"] ++ wsX50)
def wsX5_behindBlanks : List Cond := .code yX5_behindBlanks cX5_behindBlanks 4 (some .int) :: ([.methodLink RX5 27 yX5_charOf, .instanceMethod yX5_charOf, .selects RX5 yX5_charOf yX5_charOf, .initialized RX5, .code yX5_charOf cX5_charOf 2 (some .int), .fieldLink RX5 15 "LoomDesk$Tape" "size" "I", .fieldLink RX5 11 "LoomDesk$Tape" "chars" "[I"] ++ wsX50)
def wsX2_beginLevel : List Cond := .code yX2_beginLevel cX2_beginLevel 1 none :: ([.fieldLink RX2 35 "LoomDesk$Reader" "items" "[I", .fieldLink RX2 32 "LoomDesk$Reader" "depth" "I", .fieldLink RX2 39 "LoomDesk$Reader" "picks" "[J", .fieldLink RX2 43 "LoomDesk$Reader" "carriers" "[I", .fieldLink RX2 46 "LoomDesk$Reader" "densities" "[I"] ++ wsX20)
def wsX2_digitOf : List Cond := .code yX2_digitOf cX2_digitOf 1 (some .int) :: ([])
def wsX2_faultAt : List Cond := .code yX2_faultAt cX2_faultAt 2 none :: ([.fieldLink RX2 29 "LoomDesk$Reader" "fault" "I"] ++ wsX20)
def wsX2_readDigits : List Cond := .code yX2_readDigits cX2_readDigits 7 (some .int) :: ([.fieldLink RX2 25 "LoomDesk$Reader" "pos" "I", .fieldLink RX2 12 "LoomDesk$Reader" "tape" "LLoomDesk$Tape;", .constant RX2 128 (16777215), .methodLink RX2 129 Lib.Math.min.name, .static Lib.Math.min.name, .initialized "java/lang/Math", .code Lib.Math.min.name Lib.Math.min.code 2 (some .int), .methodLink RX2 75 yX5_charOf, .instanceMethod yX5_charOf, .selects RX5 yX5_charOf yX5_charOf, .initialized RX5, .code yX5_charOf cX5_charOf 2 (some .int), .fieldLink RX5 15 "LoomDesk$Tape" "size" "I", .fieldLink RX5 11 "LoomDesk$Tape" "chars" "[I", .methodLink RX2 125 yX2_digitOf, .static yX2_digitOf, .initialized RX2, .code yX2_digitOf cX2_digitOf 1 (some .int), .methodLink RX2 65 yX2_faultAt, .instanceMethod yX2_faultAt, .selects RX2 yX2_faultAt yX2_faultAt, .code yX2_faultAt cX2_faultAt 2 none, .fieldLink RX2 29 "LoomDesk$Reader" "fault" "I"] ++ wsX20 ++ wsX50)
def wsX2_addPicks : List Cond := .code yX2_addPicks cX2_addPicks 3 none :: ([.fieldLink RX2 39 "LoomDesk$Reader" "picks" "[J", .fieldLink RX2 32 "LoomDesk$Reader" "depth" "I", .constantLong RX2 117 (2000000001), .methodLink RX2 119 Lib.MathLoose.min_long.x, .static Lib.MathLoose.min_long.x, .initialized "java/lang/Math", .code Lib.MathLoose.min_long.x Lib.MathLoose.min_long.code 4 (some .long)] ++ wsX20)
def wsX2_readPick_r1 : List Cond := [Cond.fieldLink RX2 25 "LoomDesk$Reader" "pos" "I", Cond.fieldLink RX2 21 "LoomDesk$Reader" "goal" "LLoomDesk$Pattern;", Cond.methodLink RX2 97 yX2_readDigits, Cond.instanceMethod yX2_readDigits, Cond.selects RX2 yX2_readDigits yX2_readDigits, Cond.initialized RX2, Cond.code yX2_readDigits cX2_readDigits 7 (some .int), Cond.fieldLink RX2 12 "LoomDesk$Reader" "tape" "LLoomDesk$Tape;", Cond.constant RX2 128 (16777215), Cond.methodLink RX2 129 Lib.Math.min.name, Cond.static Lib.Math.min.name, Cond.initialized "java/lang/Math", Cond.code Lib.Math.min.name Lib.Math.min.code 2 (some .int), Cond.methodLink RX2 75 yX5_charOf, Cond.instanceMethod yX5_charOf, Cond.selects RX5 yX5_charOf yX5_charOf, Cond.initialized RX5, Cond.code yX5_charOf cX5_charOf 2 (some .int), Cond.fieldLink RX5 15 "LoomDesk$Tape" "size" "I", Cond.fieldLink RX5 11 "LoomDesk$Tape" "chars" "[I", Cond.methodLink RX2 125 yX2_digitOf, Cond.static yX2_digitOf, Cond.code yX2_digitOf cX2_digitOf 1 (some .int), Cond.methodLink RX2 65 yX2_faultAt]
def wsX2_readPick_r2 : List Cond := [Cond.instanceMethod yX2_faultAt, Cond.selects RX2 yX2_faultAt yX2_faultAt, Cond.code yX2_faultAt cX2_faultAt 2 none, Cond.fieldLink RX2 29 "LoomDesk$Reader" "fault" "I", Cond.methodLink RX2 101 yX1_add, Cond.instanceMethod yX1_add, Cond.selects RX1 yX1_add yX1_add, Cond.initialized RX1, Cond.code yX1_add cX1_add 3 none, Cond.fieldLink RX1 33 "LoomDesk$Pattern" "size" "I", Cond.fieldLink RX1 13 "LoomDesk$Pattern" "kinds" "[I", Cond.fieldLink RX1 17 "LoomDesk$Pattern" "values" "[I", Cond.methodLink RX2 104 yX2_addPicks, Cond.instanceMethod yX2_addPicks, Cond.selects RX2 yX2_addPicks yX2_addPicks, Cond.code yX2_addPicks cX2_addPicks 3 none, Cond.fieldLink RX2 39 "LoomDesk$Reader" "picks" "[J", Cond.fieldLink RX2 32 "LoomDesk$Reader" "depth" "I", Cond.constantLong RX2 117 (2000000001), Cond.methodLink RX2 119 Lib.MathLoose.min_long.x, Cond.static Lib.MathLoose.min_long.x, Cond.code Lib.MathLoose.min_long.x Lib.MathLoose.min_long.code 4 (some .long)]
def wsX2_readPick : List Cond := .code yX2_readPick cX2_readPick 1 none :: ((wsX2_readPick_r1 ++ wsX2_readPick_r2) ++ wsX20 ++ wsX50 ++ wsX10)
def wsX2_readCarrier_r1 : List Cond := [Cond.fieldLink RX2 25 "LoomDesk$Reader" "pos" "I", Cond.fieldLink RX2 21 "LoomDesk$Reader" "goal" "LLoomDesk$Pattern;", Cond.fieldLink RX2 43 "LoomDesk$Reader" "carriers" "[I", Cond.fieldLink RX2 32 "LoomDesk$Reader" "depth" "I", Cond.methodLink RX2 97 yX2_readDigits, Cond.instanceMethod yX2_readDigits, Cond.selects RX2 yX2_readDigits yX2_readDigits, Cond.initialized RX2, Cond.code yX2_readDigits cX2_readDigits 7 (some .int), Cond.fieldLink RX2 12 "LoomDesk$Reader" "tape" "LLoomDesk$Tape;", Cond.constant RX2 128 (16777215), Cond.methodLink RX2 129 Lib.Math.min.name, Cond.static Lib.Math.min.name, Cond.initialized "java/lang/Math", Cond.code Lib.Math.min.name Lib.Math.min.code 2 (some .int), Cond.methodLink RX2 75 yX5_charOf, Cond.instanceMethod yX5_charOf, Cond.selects RX5 yX5_charOf yX5_charOf, Cond.initialized RX5, Cond.code yX5_charOf cX5_charOf 2 (some .int), Cond.fieldLink RX5 15 "LoomDesk$Tape" "size" "I", Cond.fieldLink RX5 11 "LoomDesk$Tape" "chars" "[I", Cond.methodLink RX2 125 yX2_digitOf, Cond.static yX2_digitOf]
def wsX2_readCarrier_r2 : List Cond := [Cond.code yX2_digitOf cX2_digitOf 1 (some .int), Cond.methodLink RX2 65 yX2_faultAt, Cond.instanceMethod yX2_faultAt, Cond.selects RX2 yX2_faultAt yX2_faultAt, Cond.code yX2_faultAt cX2_faultAt 2 none, Cond.fieldLink RX2 29 "LoomDesk$Reader" "fault" "I", Cond.methodLink RX2 101 yX1_add, Cond.instanceMethod yX1_add, Cond.selects RX1 yX1_add yX1_add, Cond.initialized RX1, Cond.code yX1_add cX1_add 3 none, Cond.fieldLink RX1 33 "LoomDesk$Pattern" "size" "I", Cond.fieldLink RX1 13 "LoomDesk$Pattern" "kinds" "[I", Cond.fieldLink RX1 17 "LoomDesk$Pattern" "values" "[I"]
def wsX2_readCarrier : List Cond := .code yX2_readCarrier cX2_readCarrier 2 none :: ((wsX2_readCarrier_r1 ++ wsX2_readCarrier_r2) ++ wsX20 ++ wsX50 ++ wsX10)
def wsX2_isAllowed : List Cond := .code yX2_isAllowed cX2_isAllowed 2 (some .boolean) :: ([.fieldLink RX2 131 "LoomDesk$Reader" "ALLOWED" "[I"])
def wsX2_readDensity_r1 : List Cond := [Cond.fieldLink RX2 25 "LoomDesk$Reader" "pos" "I", Cond.fieldLink RX2 21 "LoomDesk$Reader" "goal" "LLoomDesk$Pattern;", Cond.fieldLink RX2 46 "LoomDesk$Reader" "densities" "[I", Cond.fieldLink RX2 32 "LoomDesk$Reader" "depth" "I", Cond.methodLink RX2 97 yX2_readDigits, Cond.instanceMethod yX2_readDigits, Cond.selects RX2 yX2_readDigits yX2_readDigits, Cond.initialized RX2, Cond.code yX2_readDigits cX2_readDigits 7 (some .int), Cond.fieldLink RX2 12 "LoomDesk$Reader" "tape" "LLoomDesk$Tape;", Cond.constant RX2 128 (16777215), Cond.methodLink RX2 129 Lib.Math.min.name, Cond.static Lib.Math.min.name, Cond.initialized "java/lang/Math", Cond.code Lib.Math.min.name Lib.Math.min.code 2 (some .int), Cond.methodLink RX2 75 yX5_charOf, Cond.instanceMethod yX5_charOf, Cond.selects RX5 yX5_charOf yX5_charOf, Cond.initialized RX5, Cond.code yX5_charOf cX5_charOf 2 (some .int), Cond.fieldLink RX5 15 "LoomDesk$Tape" "size" "I", Cond.fieldLink RX5 11 "LoomDesk$Tape" "chars" "[I", Cond.methodLink RX2 125 yX2_digitOf, Cond.static yX2_digitOf]
def wsX2_readDensity_r2 : List Cond := [Cond.code yX2_digitOf cX2_digitOf 1 (some .int), Cond.methodLink RX2 65 yX2_faultAt, Cond.instanceMethod yX2_faultAt, Cond.selects RX2 yX2_faultAt yX2_faultAt, Cond.code yX2_faultAt cX2_faultAt 2 none, Cond.fieldLink RX2 29 "LoomDesk$Reader" "fault" "I", Cond.methodLink RX2 108 yX2_isAllowed, Cond.static yX2_isAllowed, Cond.code yX2_isAllowed cX2_isAllowed 2 (some .boolean), Cond.fieldLink RX2 131 "LoomDesk$Reader" "ALLOWED" "[I", Cond.methodLink RX2 101 yX1_add, Cond.instanceMethod yX1_add, Cond.selects RX1 yX1_add yX1_add, Cond.initialized RX1, Cond.code yX1_add cX1_add 3 none, Cond.fieldLink RX1 33 "LoomDesk$Pattern" "size" "I", Cond.fieldLink RX1 13 "LoomDesk$Pattern" "kinds" "[I", Cond.fieldLink RX1 17 "LoomDesk$Pattern" "values" "[I"]
def wsX2_readDensity : List Cond := .code yX2_readDensity cX2_readDensity 3 none :: ((wsX2_readDensity_r1 ++ wsX2_readDensity_r2) ++ wsX20 ++ wsX50 ++ wsX10)
def wsX2_open_r1 : List Cond := [Cond.fieldLink RX2 12 "LoomDesk$Reader" "tape" "LLoomDesk$Tape;", Cond.fieldLink RX2 25 "LoomDesk$Reader" "pos" "I", Cond.fieldLink RX2 32 "LoomDesk$Reader" "depth" "I", Cond.fieldLink RX2 35 "LoomDesk$Reader" "items" "[I", Cond.fieldLink RX2 21 "LoomDesk$Reader" "goal" "LLoomDesk$Pattern;", Cond.methodLink RX2 52 yX5_behindBlanks, Cond.instanceMethod yX5_behindBlanks, Cond.selects RX5 yX5_behindBlanks yX5_behindBlanks, Cond.initialized RX5, Cond.code yX5_behindBlanks cX5_behindBlanks 4 (some .int), Cond.methodLink RX5 27 yX5_charOf, Cond.instanceMethod yX5_charOf, Cond.selects RX5 yX5_charOf yX5_charOf, Cond.code yX5_charOf cX5_charOf 2 (some .int), Cond.fieldLink RX5 15 "LoomDesk$Tape" "size" "I", Cond.fieldLink RX5 11 "LoomDesk$Tape" "chars" "[I", Cond.methodLink RX2 75 yX5_charOf, Cond.methodLink RX2 65 yX2_faultAt, Cond.instanceMethod yX2_faultAt, Cond.selects RX2 yX2_faultAt yX2_faultAt, Cond.initialized RX2, Cond.code yX2_faultAt cX2_faultAt 2 none, Cond.fieldLink RX2 29 "LoomDesk$Reader" "fault" "I", Cond.methodLink RX2 56 yX2_beginLevel]
def wsX2_open_r2 : List Cond := [Cond.instanceMethod yX2_beginLevel, Cond.selects RX2 yX2_beginLevel yX2_beginLevel, Cond.code yX2_beginLevel cX2_beginLevel 1 none, Cond.fieldLink RX2 39 "LoomDesk$Reader" "picks" "[J", Cond.fieldLink RX2 43 "LoomDesk$Reader" "carriers" "[I", Cond.fieldLink RX2 46 "LoomDesk$Reader" "densities" "[I", Cond.methodLink RX2 101 yX1_add, Cond.instanceMethod yX1_add, Cond.selects RX1 yX1_add yX1_add, Cond.initialized RX1, Cond.code yX1_add cX1_add 3 none, Cond.fieldLink RX1 33 "LoomDesk$Pattern" "size" "I", Cond.fieldLink RX1 13 "LoomDesk$Pattern" "kinds" "[I", Cond.fieldLink RX1 17 "LoomDesk$Pattern" "values" "[I"]
def wsX2_open : List Cond := .code yX2_open cX2_open 3 none :: ((wsX2_open_r1 ++ wsX2_open_r2) ++ wsX20 ++ wsX10 ++ wsX50)
def wsX2_readRepeat_r1 : List Cond := [Cond.fieldLink RX2 25 "LoomDesk$Reader" "pos" "I", Cond.methodLink RX2 97 yX2_readDigits, Cond.instanceMethod yX2_readDigits, Cond.selects RX2 yX2_readDigits yX2_readDigits, Cond.initialized RX2, Cond.code yX2_readDigits cX2_readDigits 7 (some .int), Cond.fieldLink RX2 12 "LoomDesk$Reader" "tape" "LLoomDesk$Tape;", Cond.constant RX2 128 (16777215), Cond.methodLink RX2 129 Lib.Math.min.name, Cond.static Lib.Math.min.name, Cond.initialized "java/lang/Math", Cond.code Lib.Math.min.name Lib.Math.min.code 2 (some .int), Cond.methodLink RX2 75 yX5_charOf, Cond.instanceMethod yX5_charOf, Cond.selects RX5 yX5_charOf yX5_charOf, Cond.initialized RX5, Cond.code yX5_charOf cX5_charOf 2 (some .int), Cond.fieldLink RX5 15 "LoomDesk$Tape" "size" "I", Cond.fieldLink RX5 11 "LoomDesk$Tape" "chars" "[I", Cond.methodLink RX2 125 yX2_digitOf, Cond.static yX2_digitOf, Cond.code yX2_digitOf cX2_digitOf 1 (some .int), Cond.methodLink RX2 65 yX2_faultAt, Cond.instanceMethod yX2_faultAt]
def wsX2_readRepeat_r2 : List Cond := [Cond.selects RX2 yX2_faultAt yX2_faultAt, Cond.code yX2_faultAt cX2_faultAt 2 none, Cond.fieldLink RX2 29 "LoomDesk$Reader" "fault" "I", Cond.methodLink RX2 90 yX2_open, Cond.instanceMethod yX2_open, Cond.selects RX2 yX2_open yX2_open, Cond.code yX2_open cX2_open 3 none, Cond.fieldLink RX2 32 "LoomDesk$Reader" "depth" "I", Cond.fieldLink RX2 35 "LoomDesk$Reader" "items" "[I", Cond.fieldLink RX2 21 "LoomDesk$Reader" "goal" "LLoomDesk$Pattern;", Cond.methodLink RX2 52 yX5_behindBlanks, Cond.instanceMethod yX5_behindBlanks, Cond.selects RX5 yX5_behindBlanks yX5_behindBlanks, Cond.code yX5_behindBlanks cX5_behindBlanks 4 (some .int), Cond.methodLink RX5 27 yX5_charOf, Cond.methodLink RX2 56 yX2_beginLevel, Cond.instanceMethod yX2_beginLevel, Cond.selects RX2 yX2_beginLevel yX2_beginLevel, Cond.code yX2_beginLevel cX2_beginLevel 1 none, Cond.fieldLink RX2 39 "LoomDesk$Reader" "picks" "[J", Cond.fieldLink RX2 43 "LoomDesk$Reader" "carriers" "[I", Cond.fieldLink RX2 46 "LoomDesk$Reader" "densities" "[I", Cond.methodLink RX2 101 yX1_add, Cond.instanceMethod yX1_add]
def wsX2_readRepeat_r3 : List Cond := [Cond.selects RX1 yX1_add yX1_add, Cond.initialized RX1, Cond.code yX1_add cX1_add 3 none, Cond.fieldLink RX1 33 "LoomDesk$Pattern" "size" "I", Cond.fieldLink RX1 13 "LoomDesk$Pattern" "kinds" "[I", Cond.fieldLink RX1 17 "LoomDesk$Pattern" "values" "[I"]
def wsX2_readRepeat : List Cond := .code yX2_readRepeat cX2_readRepeat 3 none :: ((wsX2_readRepeat_r1 ++ (wsX2_readRepeat_r2 ++ wsX2_readRepeat_r3)) ++ wsX20 ++ wsX50 ++ wsX10)
def wsX2_close_r1 : List Cond := [Cond.fieldLink RX2 32 "LoomDesk$Reader" "depth" "I", Cond.fieldLink RX2 39 "LoomDesk$Reader" "picks" "[J", Cond.fieldLink RX2 25 "LoomDesk$Reader" "pos" "I", Cond.fieldLink RX2 43 "LoomDesk$Reader" "carriers" "[I", Cond.fieldLink RX2 46 "LoomDesk$Reader" "densities" "[I", Cond.fieldLink RX2 21 "LoomDesk$Reader" "goal" "LLoomDesk$Pattern;", Cond.fieldLink RX2 35 "LoomDesk$Reader" "items" "[I", Cond.methodLink RX2 65 yX2_faultAt, Cond.instanceMethod yX2_faultAt, Cond.selects RX2 yX2_faultAt yX2_faultAt, Cond.initialized RX2, Cond.code yX2_faultAt cX2_faultAt 2 none, Cond.fieldLink RX2 29 "LoomDesk$Reader" "fault" "I", Cond.methodLink RX2 113 yX1_end, Cond.instanceMethod yX1_end, Cond.selects RX1 yX1_end yX1_end, Cond.initialized RX1, Cond.code yX1_end cX1_end 6 (some .int), Cond.fieldLink RX1 33 "LoomDesk$Pattern" "size" "I", Cond.fieldLink RX1 20 "LoomDesk$Pattern" "ends" "[I", Cond.fieldLink RX1 23 "LoomDesk$Pattern" "insides" "[J", Cond.fieldLink RX1 27 "LoomDesk$Pattern" "carriers" "[I", Cond.fieldLink RX1 30 "LoomDesk$Pattern" "densities" "[I", Cond.fieldLink RX1 17 "LoomDesk$Pattern" "values" "[I"]
def wsX2_close_r2 : List Cond := [Cond.methodLink RX2 104 yX2_addPicks, Cond.instanceMethod yX2_addPicks, Cond.selects RX2 yX2_addPicks yX2_addPicks, Cond.code yX2_addPicks cX2_addPicks 3 none, Cond.constantLong RX2 117 (2000000001), Cond.methodLink RX2 119 Lib.MathLoose.min_long.x, Cond.static Lib.MathLoose.min_long.x, Cond.initialized "java/lang/Math", Cond.code Lib.MathLoose.min_long.x Lib.MathLoose.min_long.code 4 (some .long)]
def wsX2_close : List Cond := .code yX2_close cX2_close 6 none :: ((wsX2_close_r1 ++ wsX2_close_r2) ++ wsX20 ++ wsX10)
def wsX2_readItem_r1 : List Cond := [Cond.fieldLink RX2 12 "LoomDesk$Reader" "tape" "LLoomDesk$Tape;", Cond.fieldLink RX2 25 "LoomDesk$Reader" "pos" "I", Cond.methodLink RX2 75 yX5_charOf, Cond.instanceMethod yX5_charOf, Cond.selects RX5 yX5_charOf yX5_charOf, Cond.initialized RX5, Cond.code yX5_charOf cX5_charOf 2 (some .int), Cond.fieldLink RX5 15 "LoomDesk$Tape" "size" "I", Cond.fieldLink RX5 11 "LoomDesk$Tape" "chars" "[I", Cond.methodLink RX2 78 yX2_readPick, Cond.instanceMethod yX2_readPick, Cond.selects RX2 yX2_readPick yX2_readPick, Cond.initialized RX2, Cond.code yX2_readPick cX2_readPick 1 none, Cond.fieldLink RX2 21 "LoomDesk$Reader" "goal" "LLoomDesk$Pattern;", Cond.methodLink RX2 97 yX2_readDigits, Cond.instanceMethod yX2_readDigits, Cond.selects RX2 yX2_readDigits yX2_readDigits, Cond.code yX2_readDigits cX2_readDigits 7 (some .int), Cond.constant RX2 128 (16777215), Cond.methodLink RX2 129 Lib.Math.min.name, Cond.static Lib.Math.min.name, Cond.initialized "java/lang/Math", Cond.code Lib.Math.min.name Lib.Math.min.code 2 (some .int)]
def wsX2_readItem_r2 : List Cond := [Cond.methodLink RX2 125 yX2_digitOf, Cond.static yX2_digitOf, Cond.code yX2_digitOf cX2_digitOf 1 (some .int), Cond.methodLink RX2 65 yX2_faultAt, Cond.instanceMethod yX2_faultAt, Cond.selects RX2 yX2_faultAt yX2_faultAt, Cond.code yX2_faultAt cX2_faultAt 2 none, Cond.fieldLink RX2 29 "LoomDesk$Reader" "fault" "I", Cond.methodLink RX2 101 yX1_add, Cond.instanceMethod yX1_add, Cond.selects RX1 yX1_add yX1_add, Cond.initialized RX1, Cond.code yX1_add cX1_add 3 none, Cond.fieldLink RX1 33 "LoomDesk$Pattern" "size" "I", Cond.fieldLink RX1 13 "LoomDesk$Pattern" "kinds" "[I", Cond.fieldLink RX1 17 "LoomDesk$Pattern" "values" "[I", Cond.methodLink RX2 104 yX2_addPicks, Cond.instanceMethod yX2_addPicks, Cond.selects RX2 yX2_addPicks yX2_addPicks, Cond.code yX2_addPicks cX2_addPicks 3 none, Cond.fieldLink RX2 39 "LoomDesk$Reader" "picks" "[J", Cond.fieldLink RX2 32 "LoomDesk$Reader" "depth" "I", Cond.constantLong RX2 117 (2000000001), Cond.methodLink RX2 119 Lib.MathLoose.min_long.x]
def wsX2_readItem_r3 : List Cond := [Cond.static Lib.MathLoose.min_long.x, Cond.code Lib.MathLoose.min_long.x Lib.MathLoose.min_long.code 4 (some .long), Cond.methodLink RX2 81 yX2_readCarrier, Cond.instanceMethod yX2_readCarrier, Cond.selects RX2 yX2_readCarrier yX2_readCarrier, Cond.code yX2_readCarrier cX2_readCarrier 2 none, Cond.fieldLink RX2 43 "LoomDesk$Reader" "carriers" "[I", Cond.methodLink RX2 84 yX2_readDensity, Cond.instanceMethod yX2_readDensity, Cond.selects RX2 yX2_readDensity yX2_readDensity, Cond.code yX2_readDensity cX2_readDensity 3 none, Cond.fieldLink RX2 46 "LoomDesk$Reader" "densities" "[I", Cond.methodLink RX2 108 yX2_isAllowed, Cond.static yX2_isAllowed, Cond.code yX2_isAllowed cX2_isAllowed 2 (some .boolean), Cond.fieldLink RX2 131 "LoomDesk$Reader" "ALLOWED" "[I", Cond.methodLink RX2 87 yX2_readRepeat, Cond.instanceMethod yX2_readRepeat, Cond.selects RX2 yX2_readRepeat yX2_readRepeat, Cond.code yX2_readRepeat cX2_readRepeat 3 none, Cond.methodLink RX2 90 yX2_open, Cond.instanceMethod yX2_open, Cond.selects RX2 yX2_open yX2_open, Cond.code yX2_open cX2_open 3 none]
def wsX2_readItem_r4 : List Cond := [Cond.fieldLink RX2 35 "LoomDesk$Reader" "items" "[I", Cond.methodLink RX2 52 yX5_behindBlanks, Cond.instanceMethod yX5_behindBlanks, Cond.selects RX5 yX5_behindBlanks yX5_behindBlanks, Cond.code yX5_behindBlanks cX5_behindBlanks 4 (some .int), Cond.methodLink RX5 27 yX5_charOf, Cond.methodLink RX2 56 yX2_beginLevel, Cond.instanceMethod yX2_beginLevel, Cond.selects RX2 yX2_beginLevel yX2_beginLevel, Cond.code yX2_beginLevel cX2_beginLevel 1 none, Cond.methodLink RX2 94 yX2_close, Cond.instanceMethod yX2_close, Cond.selects RX2 yX2_close yX2_close, Cond.code yX2_close cX2_close 6 none, Cond.methodLink RX2 113 yX1_end, Cond.instanceMethod yX1_end, Cond.selects RX1 yX1_end yX1_end, Cond.code yX1_end cX1_end 6 (some .int), Cond.fieldLink RX1 20 "LoomDesk$Pattern" "ends" "[I", Cond.fieldLink RX1 23 "LoomDesk$Pattern" "insides" "[J", Cond.fieldLink RX1 27 "LoomDesk$Pattern" "carriers" "[I", Cond.fieldLink RX1 30 "LoomDesk$Pattern" "densities" "[I"]
def wsX2_readItem : List Cond := .code yX2_readItem cX2_readItem 1 none :: ((wsX2_readItem_r1 ++ (wsX2_readItem_r2 ++ (wsX2_readItem_r3 ++ wsX2_readItem_r4))) ++ wsX20 ++ wsX50 ++ wsX10)
def wsX5_clear : List Cond := .code yX5_clear cX5_clear 1 none :: ([.fieldLink RX5 15 "LoomDesk$Tape" "size" "I"] ++ wsX50)
def wsX2_read_r1 : List Cond := [Cond.fieldLink RX2 21 "LoomDesk$Reader" "goal" "LLoomDesk$Pattern;", Cond.fieldLink RX2 12 "LoomDesk$Reader" "tape" "LLoomDesk$Tape;", Cond.fieldLink RX2 25 "LoomDesk$Reader" "pos" "I", Cond.fieldLink RX2 29 "LoomDesk$Reader" "fault" "I", Cond.fieldLink RX2 32 "LoomDesk$Reader" "depth" "I", Cond.fieldLink RX2 39 "LoomDesk$Reader" "picks" "[J", Cond.constantLong RX2 69 (2000000000), Cond.methodLink RX2 49 yX1_clear, Cond.instanceMethod yX1_clear, Cond.selects RX1 yX1_clear yX1_clear, Cond.initialized RX1, Cond.code yX1_clear cX1_clear 1 none, Cond.fieldLink RX1 33 "LoomDesk$Pattern" "size" "I", Cond.fieldLink RX1 37 "LoomDesk$Pattern" "picks" "J", Cond.methodLink RX2 52 yX5_behindBlanks, Cond.instanceMethod yX5_behindBlanks, Cond.selects RX5 yX5_behindBlanks yX5_behindBlanks, Cond.initialized RX5, Cond.code yX5_behindBlanks cX5_behindBlanks 4 (some .int), Cond.methodLink RX5 27 yX5_charOf, Cond.instanceMethod yX5_charOf, Cond.selects RX5 yX5_charOf yX5_charOf, Cond.code yX5_charOf cX5_charOf 2 (some .int), Cond.fieldLink RX5 15 "LoomDesk$Tape" "size" "I"]
def wsX2_read_r2 : List Cond := [Cond.fieldLink RX5 11 "LoomDesk$Tape" "chars" "[I", Cond.methodLink RX2 56 yX2_beginLevel, Cond.instanceMethod yX2_beginLevel, Cond.selects RX2 yX2_beginLevel yX2_beginLevel, Cond.initialized RX2, Cond.code yX2_beginLevel cX2_beginLevel 1 none, Cond.fieldLink RX2 35 "LoomDesk$Reader" "items" "[I", Cond.fieldLink RX2 43 "LoomDesk$Reader" "carriers" "[I", Cond.fieldLink RX2 46 "LoomDesk$Reader" "densities" "[I", Cond.methodLink RX2 62 yX2_readItem, Cond.instanceMethod yX2_readItem, Cond.selects RX2 yX2_readItem yX2_readItem, Cond.code yX2_readItem cX2_readItem 1 none, Cond.methodLink RX2 75 yX5_charOf, Cond.methodLink RX2 78 yX2_readPick, Cond.instanceMethod yX2_readPick, Cond.selects RX2 yX2_readPick yX2_readPick, Cond.code yX2_readPick cX2_readPick 1 none, Cond.methodLink RX2 97 yX2_readDigits, Cond.instanceMethod yX2_readDigits, Cond.selects RX2 yX2_readDigits yX2_readDigits, Cond.code yX2_readDigits cX2_readDigits 7 (some .int), Cond.constant RX2 128 (16777215), Cond.methodLink RX2 129 Lib.Math.min.name]
def wsX2_read_r3 : List Cond := [Cond.static Lib.Math.min.name, Cond.initialized "java/lang/Math", Cond.code Lib.Math.min.name Lib.Math.min.code 2 (some .int), Cond.methodLink RX2 125 yX2_digitOf, Cond.static yX2_digitOf, Cond.code yX2_digitOf cX2_digitOf 1 (some .int), Cond.methodLink RX2 65 yX2_faultAt, Cond.instanceMethod yX2_faultAt, Cond.selects RX2 yX2_faultAt yX2_faultAt, Cond.code yX2_faultAt cX2_faultAt 2 none, Cond.methodLink RX2 101 yX1_add, Cond.instanceMethod yX1_add, Cond.selects RX1 yX1_add yX1_add, Cond.code yX1_add cX1_add 3 none, Cond.fieldLink RX1 13 "LoomDesk$Pattern" "kinds" "[I", Cond.fieldLink RX1 17 "LoomDesk$Pattern" "values" "[I", Cond.methodLink RX2 104 yX2_addPicks, Cond.instanceMethod yX2_addPicks, Cond.selects RX2 yX2_addPicks yX2_addPicks, Cond.code yX2_addPicks cX2_addPicks 3 none, Cond.constantLong RX2 117 (2000000001), Cond.methodLink RX2 119 Lib.MathLoose.min_long.x, Cond.static Lib.MathLoose.min_long.x, Cond.code Lib.MathLoose.min_long.x Lib.MathLoose.min_long.code 4 (some .long)]
def wsX2_read_r4 : List Cond := [Cond.methodLink RX2 81 yX2_readCarrier, Cond.instanceMethod yX2_readCarrier, Cond.selects RX2 yX2_readCarrier yX2_readCarrier, Cond.code yX2_readCarrier cX2_readCarrier 2 none, Cond.methodLink RX2 84 yX2_readDensity, Cond.instanceMethod yX2_readDensity, Cond.selects RX2 yX2_readDensity yX2_readDensity, Cond.code yX2_readDensity cX2_readDensity 3 none, Cond.methodLink RX2 108 yX2_isAllowed, Cond.static yX2_isAllowed, Cond.code yX2_isAllowed cX2_isAllowed 2 (some .boolean), Cond.fieldLink RX2 131 "LoomDesk$Reader" "ALLOWED" "[I", Cond.methodLink RX2 87 yX2_readRepeat, Cond.instanceMethod yX2_readRepeat, Cond.selects RX2 yX2_readRepeat yX2_readRepeat, Cond.code yX2_readRepeat cX2_readRepeat 3 none, Cond.methodLink RX2 90 yX2_open, Cond.instanceMethod yX2_open, Cond.selects RX2 yX2_open yX2_open, Cond.code yX2_open cX2_open 3 none, Cond.methodLink RX2 94 yX2_close, Cond.instanceMethod yX2_close, Cond.selects RX2 yX2_close yX2_close, Cond.code yX2_close cX2_close 6 none]
def wsX2_read_r5 : List Cond := [Cond.methodLink RX2 113 yX1_end, Cond.instanceMethod yX1_end, Cond.selects RX1 yX1_end yX1_end, Cond.code yX1_end cX1_end 6 (some .int), Cond.fieldLink RX1 20 "LoomDesk$Pattern" "ends" "[I", Cond.fieldLink RX1 23 "LoomDesk$Pattern" "insides" "[J", Cond.fieldLink RX1 27 "LoomDesk$Pattern" "carriers" "[I", Cond.fieldLink RX1 30 "LoomDesk$Pattern" "densities" "[I", Cond.methodLink RX2 74 yX5_clear, Cond.instanceMethod yX5_clear, Cond.selects RX5 yX5_clear yX5_clear, Cond.code yX5_clear cX5_clear 1 none]
def wsX2_read : List Cond := .code yX2_read cX2_read 3 (some .int) :: ((wsX2_read_r1 ++ (wsX2_read_r2 ++ (wsX2_read_r3 ++ (wsX2_read_r4 ++ wsX2_read_r5)))) ++ wsX20 ++ wsX50 ++ wsX10)
def wsX3_init : List Cond := .code yX3_init cX3_init 1 none :: ([.methodLink RX3 3 objectInit, .instanceMethod objectInit, .code objectInit ⟨#[0xb1]⟩ 1 none, .arrayClass .int, .fieldLink RX3 9 "LoomDesk$Records" "marks" "[I", .arrayClass .long, .fieldLink RX3 15 "LoomDesk$Records" "places" "[J", .fieldLink RX3 19 "LoomDesk$Records" "last" "I"] ++ wsX30)
def wsX3_other : List Cond := .code yX3_other cX3_other 1 (some .int) :: ([.fieldLink RX3 19 "LoomDesk$Records" "last" "I"] ++ wsX30)
def wsX3_write : List Cond := .code yX3_write cX3_write 4 none :: ([.fieldLink RX3 19 "LoomDesk$Records" "last" "I", .fieldLink RX3 9 "LoomDesk$Records" "marks" "[I", .fieldLink RX3 15 "LoomDesk$Records" "places" "[J", .methodLink RX3 23 yX3_other, .instanceMethod yX3_other, .selects RX3 yX3_other yX3_other, .initialized RX3, .code yX3_other cX3_other 1 (some .int)] ++ wsX30)
def wsX3_spoilLast : List Cond := .code yX3_spoilLast cX3_spoilLast 1 none :: ([.fieldLink RX3 9 "LoomDesk$Records" "marks" "[I", .fieldLink RX3 19 "LoomDesk$Records" "last" "I"] ++ wsX30)
def wsX3_clear : List Cond := .code yX3_clear cX3_clear 1 none :: ([.fieldLink RX3 9 "LoomDesk$Records" "marks" "[I"] ++ wsX30)
def wsX3_newest : List Cond := .code yX3_newest cX3_newest 1 (some .int) :: ([.fieldLink RX3 9 "LoomDesk$Records" "marks" "[I", .fieldLink RX3 19 "LoomDesk$Records" "last" "I", .methodLink RX3 23 yX3_other, .instanceMethod yX3_other, .selects RX3 yX3_other yX3_other, .initialized RX3, .code yX3_other cX3_other 1 (some .int)] ++ wsX30)
def wsX3_markOf : List Cond := .code yX3_markOf cX3_markOf 2 (some .int) :: ([.fieldLink RX3 9 "LoomDesk$Records" "marks" "[I"] ++ wsX30)
def wsX3_placeOf : List Cond := .code yX3_placeOf cX3_placeOf 2 (some .long) :: ([.fieldLink RX3 15 "LoomDesk$Records" "places" "[J"] ++ wsX30)
def wsX4_init : List Cond := .code yX4_init cX4_init 1 none :: ([.methodLink RX4 3 objectInit, .instanceMethod objectInit, .code objectInit ⟨#[0xb1]⟩ 1 none, .fieldLink RX4 9 "LoomDesk$Shaft" "at" "I", .fieldLink RX4 15 "LoomDesk$Shaft" "mode" "I", .fieldLink RX4 18 "LoomDesk$Shaft" "toGo" "I", .fieldLink RX4 21 "LoomDesk$Shaft" "pace" "I", .fieldLink RX4 24 "LoomDesk$Shaft" "orders" "I", .fieldLink RX4 27 "LoomDesk$Shaft" "turns" "J"] ++ wsX40)
def wsX4_stands : List Cond := .code yX4_stands cX4_stands 1 (some .boolean) :: ([.fieldLink RX4 15 "LoomDesk$Shaft" "mode" "I"] ++ wsX40)
def wsX4_stand : List Cond := .code yX4_stand cX4_stand 1 none :: ([.fieldLink RX4 15 "LoomDesk$Shaft" "mode" "I", .fieldLink RX4 18 "LoomDesk$Shaft" "toGo" "I"] ++ wsX40)
def wsX4_orderBrake : List Cond := .code yX4_orderBrake cX4_orderBrake 1 (some .boolean) :: ([.fieldLink RX4 15 "LoomDesk$Shaft" "mode" "I", .fieldLink RX4 21 "LoomDesk$Shaft" "pace" "I", .fieldLink RX4 18 "LoomDesk$Shaft" "toGo" "I", .fieldLink RX4 24 "LoomDesk$Shaft" "orders" "I"] ++ wsX40)
def wsX4_markAbove : List Cond := .code yX4_markAbove cX4_markAbove 1 (some .int) :: ([.fieldLink RX4 9 "LoomDesk$Shaft" "at" "I"] ++ wsX40)
def wsX4_markBelow : List Cond := .code yX4_markBelow cX4_markBelow 2 (some .int) :: ([])
def wsX4_goTowards : List Cond := .code yX4_goTowards cX4_goTowards 4 (some .int) :: ([.fieldLink RX4 9 "LoomDesk$Shaft" "at" "I", .methodLink RX4 31 Lib.Math.min.name, .static Lib.Math.min.name, .initialized "java/lang/Math", .code Lib.Math.min.name Lib.Math.min.code 2 (some .int), .fieldLink RX4 15 "LoomDesk$Shaft" "mode" "I", .fieldLink RX4 18 "LoomDesk$Shaft" "toGo" "I"] ++ wsX40)
def wsX4_standWhenSpent : List Cond := .code yX4_standWhenSpent cX4_standWhenSpent 1 none :: ([.fieldLink RX4 15 "LoomDesk$Shaft" "mode" "I", .fieldLink RX4 18 "LoomDesk$Shaft" "toGo" "I", .methodLink RX4 37 yX4_stand, .instanceMethod yX4_stand, .selects RX4 yX4_stand yX4_stand, .initialized RX4, .code yX4_stand cX4_stand 1 none] ++ wsX40)
def wsX5_byteOf : List Cond := .code yX5_byteOf cX5_byteOf 3 (some .int) :: ([])
def wsX5_add : List Cond := .code yX5_add cX5_add 2 none :: ([.fieldLink RX5 15 "LoomDesk$Tape" "size" "I", .fieldLink RX5 11 "LoomDesk$Tape" "chars" "[I"] ++ wsX50)
def wsX5_put : List Cond := .code yX5_put cX5_put 6 (some .boolean) :: ([.fieldLink RX5 15 "LoomDesk$Tape" "size" "I", .methodLink RX5 19 yX5_byteOf, .static yX5_byteOf, .initialized RX5, .code yX5_byteOf cX5_byteOf 3 (some .int), .methodLink RX5 23 yX5_add, .instanceMethod yX5_add, .selects RX5 yX5_add yX5_add, .code yX5_add cX5_add 2 none, .fieldLink RX5 11 "LoomDesk$Tape" "chars" "[I"] ++ wsX50)
def wsX6_init_r1 : List Cond := [Cond.methodLink RX6 3 objectInit, Cond.instanceMethod objectInit, Cond.code objectInit ⟨#[0xb1]⟩ 1 none, Cond.classLink RX6 9 RX2, Cond.instantiable RX2 9, Cond.initialized RX2, Cond.fieldLink RX6 12 "LoomDesk" "reader" "LLoomDesk$Reader;", Cond.classLink RX6 16 RX4, Cond.instantiable RX4 6, Cond.initialized RX4, Cond.fieldLink RX6 19 "LoomDesk" "shaft" "LLoomDesk$Shaft;", Cond.classLink RX6 23 RX0, Cond.instantiable RX0 7, Cond.initialized RX0, Cond.fieldLink RX6 26 "LoomDesk" "woven" "LLoomDesk$Cloth;", Cond.classLink RX6 30 RX3, Cond.instantiable RX3 3, Cond.initialized RX3, Cond.fieldLink RX6 33 "LoomDesk" "records" "LLoomDesk$Records;", Cond.classLink RX6 37 RX1, Cond.instantiable RX1 11, Cond.initialized RX1, Cond.fieldLink RX6 40 "LoomDesk" "pattern" "LLoomDesk$Pattern;", Cond.fieldLink RX6 44 "LoomDesk" "place" "J"]
def wsX6_init_r2 : List Cond := [Cond.fieldLink RX6 48 "LoomDesk" "shed" "I", Cond.fieldLink RX6 52 "LoomDesk" "carrier" "I", Cond.fieldLink RX6 55 "LoomDesk" "pick" "I", Cond.fieldLink RX6 58 "LoomDesk" "missed" "I", Cond.fieldLink RX6 61 "LoomDesk" "breakTold" "Z", Cond.fieldLink RX6 65 "LoomDesk" "power" "Z", Cond.methodLink RX6 11 yX2_init, Cond.instanceMethod yX2_init, Cond.code yX2_init cX2_init 1 none, Cond.methodLink RX2 3 objectInit, Cond.classLink RX2 9 RX5, Cond.instantiable RX5 2, Cond.initialized RX5, Cond.fieldLink RX2 12 "LoomDesk$Reader" "tape" "LLoomDesk$Tape;", Cond.classLink RX2 18 RX1, Cond.fieldLink RX2 21 "LoomDesk$Reader" "goal" "LLoomDesk$Pattern;", Cond.fieldLink RX2 25 "LoomDesk$Reader" "pos" "I", Cond.fieldLink RX2 29 "LoomDesk$Reader" "fault" "I", Cond.fieldLink RX2 32 "LoomDesk$Reader" "depth" "I", Cond.arrayClass .int, Cond.fieldLink RX2 35 "LoomDesk$Reader" "items" "[I", Cond.arrayClass .long, Cond.fieldLink RX2 39 "LoomDesk$Reader" "picks" "[J", Cond.fieldLink RX2 43 "LoomDesk$Reader" "carriers" "[I"]
def wsX6_init_r3 : List Cond := [Cond.fieldLink RX2 46 "LoomDesk$Reader" "densities" "[I", Cond.methodLink RX2 11 yX5_init, Cond.instanceMethod yX5_init, Cond.code yX5_init cX5_init 1 none, Cond.methodLink RX5 3 objectInit, Cond.fieldLink RX5 11 "LoomDesk$Tape" "chars" "[I", Cond.fieldLink RX5 15 "LoomDesk$Tape" "size" "I", Cond.methodLink RX2 20 yX1_init, Cond.instanceMethod yX1_init, Cond.code yX1_init cX1_init 1 none, Cond.methodLink RX1 5 objectInit, Cond.fieldLink RX1 13 "LoomDesk$Pattern" "kinds" "[I", Cond.fieldLink RX1 17 "LoomDesk$Pattern" "values" "[I", Cond.fieldLink RX1 20 "LoomDesk$Pattern" "ends" "[I", Cond.fieldLink RX1 23 "LoomDesk$Pattern" "insides" "[J", Cond.fieldLink RX1 27 "LoomDesk$Pattern" "carriers" "[I", Cond.fieldLink RX1 30 "LoomDesk$Pattern" "densities" "[I", Cond.fieldLink RX1 33 "LoomDesk$Pattern" "size" "I", Cond.fieldLink RX1 37 "LoomDesk$Pattern" "picks" "J", Cond.fieldLink RX1 41 "LoomDesk$Pattern" "ahead" "J", Cond.fieldLink RX1 44 "LoomDesk$Pattern" "carrier" "I", Cond.fieldLink RX1 47 "LoomDesk$Pattern" "density" "I", Cond.methodLink RX6 18 yX4_init, Cond.instanceMethod yX4_init]
def wsX6_init_r4 : List Cond := [Cond.code yX4_init cX4_init 1 none, Cond.methodLink RX4 3 objectInit, Cond.fieldLink RX4 9 "LoomDesk$Shaft" "at" "I", Cond.fieldLink RX4 15 "LoomDesk$Shaft" "mode" "I", Cond.fieldLink RX4 18 "LoomDesk$Shaft" "toGo" "I", Cond.fieldLink RX4 21 "LoomDesk$Shaft" "pace" "I", Cond.fieldLink RX4 24 "LoomDesk$Shaft" "orders" "I", Cond.fieldLink RX4 27 "LoomDesk$Shaft" "turns" "J", Cond.methodLink RX6 25 yX0_init, Cond.instanceMethod yX0_init, Cond.code yX0_init cX0_init 1 none, Cond.methodLink RX0 3 objectInit, Cond.fieldLink RX0 11 "LoomDesk$Cloth" "sheds" "[I", Cond.fieldLink RX0 15 "LoomDesk$Cloth" "carriers" "[I", Cond.fieldLink RX0 18 "LoomDesk$Cloth" "densities" "[I", Cond.fieldLink RX0 21 "LoomDesk$Cloth" "next" "I", Cond.fieldLink RX0 25 "LoomDesk$Cloth" "kept" "I", Cond.fieldLink RX0 28 "LoomDesk$Cloth" "beaten" "J", Cond.fieldLink RX0 32 "LoomDesk$Cloth" "taken" "J", Cond.methodLink RX6 32 yX3_init, Cond.instanceMethod yX3_init, Cond.code yX3_init cX3_init 1 none, Cond.methodLink RX3 3 objectInit, Cond.fieldLink RX3 9 "LoomDesk$Records" "marks" "[I"]
def wsX6_init_r5 : List Cond := [Cond.fieldLink RX3 15 "LoomDesk$Records" "places" "[J", Cond.fieldLink RX3 19 "LoomDesk$Records" "last" "I", Cond.methodLink RX6 39 yX1_init]
def wsX6_init : List Cond := .code yX6_init cX6_init 1 none :: ((wsX6_init_r1 ++ (wsX6_init_r2 ++ (wsX6_init_r3 ++ (wsX6_init_r4 ++ wsX6_init_r5)))) ++ wsX20 ++ wsX60 ++ wsX40 ++ wsX00 ++ wsX30 ++ wsX10 ++ wsX50)
def wsX6_type : List Cond := .code yX6_type cX6_type 4 (some .boolean) :: ([.fieldLink RX6 12 "LoomDesk" "reader" "LLoomDesk$Reader;", .methodLink RX6 72 yX5_put, .instanceMethod yX5_put, .selects RX5 yX5_put yX5_put, .initialized RX5, .code yX5_put cX5_put 6 (some .boolean), .fieldLink RX5 15 "LoomDesk$Tape" "size" "I", .methodLink RX5 19 yX5_byteOf, .static yX5_byteOf, .code yX5_byteOf cX5_byteOf 3 (some .int), .methodLink RX5 23 yX5_add, .instanceMethod yX5_add, .selects RX5 yX5_add yX5_add, .code yX5_add cX5_add 2 none, .fieldLink RX5 11 "LoomDesk$Tape" "chars" "[I"] ++ wsX60 ++ wsX20 ++ wsX50)
def wsX6_compile_r1 : List Cond := [Cond.fieldLink RX6 65 "LoomDesk" "power" "Z", Cond.fieldLink RX6 19 "LoomDesk" "shaft" "LLoomDesk$Shaft;", Cond.fieldLink RX6 12 "LoomDesk" "reader" "LLoomDesk$Reader;", Cond.fieldLink RX6 40 "LoomDesk" "pattern" "LLoomDesk$Pattern;", Cond.fieldLink RX6 44 "LoomDesk" "place" "J", Cond.fieldLink RX6 33 "LoomDesk" "records" "LLoomDesk$Records;", Cond.methodLink RX6 78 yX4_stands, Cond.instanceMethod yX4_stands, Cond.selects RX4 yX4_stands yX4_stands, Cond.initialized RX4, Cond.code yX4_stands cX4_stands 1 (some .boolean), Cond.fieldLink RX4 15 "LoomDesk$Shaft" "mode" "I", Cond.methodLink RX6 82 yX2_read, Cond.instanceMethod yX2_read, Cond.selects RX2 yX2_read yX2_read, Cond.initialized RX2, Cond.code yX2_read cX2_read 3 (some .int), Cond.fieldLink RX2 21 "LoomDesk$Reader" "goal" "LLoomDesk$Pattern;", Cond.fieldLink RX2 12 "LoomDesk$Reader" "tape" "LLoomDesk$Tape;", Cond.fieldLink RX2 25 "LoomDesk$Reader" "pos" "I", Cond.fieldLink RX2 29 "LoomDesk$Reader" "fault" "I", Cond.fieldLink RX2 32 "LoomDesk$Reader" "depth" "I", Cond.fieldLink RX2 39 "LoomDesk$Reader" "picks" "[J", Cond.constantLong RX2 69 (2000000000)]
def wsX6_compile_r2 : List Cond := [Cond.methodLink RX2 49 yX1_clear, Cond.instanceMethod yX1_clear, Cond.selects RX1 yX1_clear yX1_clear, Cond.initialized RX1, Cond.code yX1_clear cX1_clear 1 none, Cond.fieldLink RX1 33 "LoomDesk$Pattern" "size" "I", Cond.fieldLink RX1 37 "LoomDesk$Pattern" "picks" "J", Cond.methodLink RX2 52 yX5_behindBlanks, Cond.instanceMethod yX5_behindBlanks, Cond.selects RX5 yX5_behindBlanks yX5_behindBlanks, Cond.initialized RX5, Cond.code yX5_behindBlanks cX5_behindBlanks 4 (some .int), Cond.methodLink RX5 27 yX5_charOf, Cond.instanceMethod yX5_charOf, Cond.selects RX5 yX5_charOf yX5_charOf, Cond.code yX5_charOf cX5_charOf 2 (some .int), Cond.fieldLink RX5 15 "LoomDesk$Tape" "size" "I", Cond.fieldLink RX5 11 "LoomDesk$Tape" "chars" "[I", Cond.methodLink RX2 56 yX2_beginLevel, Cond.instanceMethod yX2_beginLevel, Cond.selects RX2 yX2_beginLevel yX2_beginLevel, Cond.code yX2_beginLevel cX2_beginLevel 1 none, Cond.fieldLink RX2 35 "LoomDesk$Reader" "items" "[I", Cond.fieldLink RX2 43 "LoomDesk$Reader" "carriers" "[I"]
def wsX6_compile_r3 : List Cond := [Cond.fieldLink RX2 46 "LoomDesk$Reader" "densities" "[I", Cond.methodLink RX2 62 yX2_readItem, Cond.instanceMethod yX2_readItem, Cond.selects RX2 yX2_readItem yX2_readItem, Cond.code yX2_readItem cX2_readItem 1 none, Cond.methodLink RX2 75 yX5_charOf, Cond.methodLink RX2 78 yX2_readPick, Cond.instanceMethod yX2_readPick, Cond.selects RX2 yX2_readPick yX2_readPick, Cond.code yX2_readPick cX2_readPick 1 none, Cond.methodLink RX2 97 yX2_readDigits, Cond.instanceMethod yX2_readDigits, Cond.selects RX2 yX2_readDigits yX2_readDigits, Cond.code yX2_readDigits cX2_readDigits 7 (some .int), Cond.constant RX2 128 (16777215), Cond.methodLink RX2 129 Lib.Math.min.name, Cond.static Lib.Math.min.name, Cond.initialized "java/lang/Math", Cond.code Lib.Math.min.name Lib.Math.min.code 2 (some .int), Cond.methodLink RX2 125 yX2_digitOf, Cond.static yX2_digitOf, Cond.code yX2_digitOf cX2_digitOf 1 (some .int), Cond.methodLink RX2 65 yX2_faultAt, Cond.instanceMethod yX2_faultAt]
def wsX6_compile_r4 : List Cond := [Cond.selects RX2 yX2_faultAt yX2_faultAt, Cond.code yX2_faultAt cX2_faultAt 2 none, Cond.methodLink RX2 101 yX1_add, Cond.instanceMethod yX1_add, Cond.selects RX1 yX1_add yX1_add, Cond.code yX1_add cX1_add 3 none, Cond.fieldLink RX1 13 "LoomDesk$Pattern" "kinds" "[I", Cond.fieldLink RX1 17 "LoomDesk$Pattern" "values" "[I", Cond.methodLink RX2 104 yX2_addPicks, Cond.instanceMethod yX2_addPicks, Cond.selects RX2 yX2_addPicks yX2_addPicks, Cond.code yX2_addPicks cX2_addPicks 3 none, Cond.constantLong RX2 117 (2000000001), Cond.methodLink RX2 119 Lib.MathLoose.min_long.x, Cond.static Lib.MathLoose.min_long.x, Cond.code Lib.MathLoose.min_long.x Lib.MathLoose.min_long.code 4 (some .long), Cond.methodLink RX2 81 yX2_readCarrier, Cond.instanceMethod yX2_readCarrier, Cond.selects RX2 yX2_readCarrier yX2_readCarrier, Cond.code yX2_readCarrier cX2_readCarrier 2 none, Cond.methodLink RX2 84 yX2_readDensity, Cond.instanceMethod yX2_readDensity, Cond.selects RX2 yX2_readDensity yX2_readDensity, Cond.code yX2_readDensity cX2_readDensity 3 none]
def wsX6_compile_r5 : List Cond := [Cond.methodLink RX2 108 yX2_isAllowed, Cond.static yX2_isAllowed, Cond.code yX2_isAllowed cX2_isAllowed 2 (some .boolean), Cond.fieldLink RX2 131 "LoomDesk$Reader" "ALLOWED" "[I", Cond.methodLink RX2 87 yX2_readRepeat, Cond.instanceMethod yX2_readRepeat, Cond.selects RX2 yX2_readRepeat yX2_readRepeat, Cond.code yX2_readRepeat cX2_readRepeat 3 none, Cond.methodLink RX2 90 yX2_open, Cond.instanceMethod yX2_open, Cond.selects RX2 yX2_open yX2_open, Cond.code yX2_open cX2_open 3 none, Cond.methodLink RX2 94 yX2_close, Cond.instanceMethod yX2_close, Cond.selects RX2 yX2_close yX2_close, Cond.code yX2_close cX2_close 6 none, Cond.methodLink RX2 113 yX1_end, Cond.instanceMethod yX1_end, Cond.selects RX1 yX1_end yX1_end, Cond.code yX1_end cX1_end 6 (some .int), Cond.fieldLink RX1 20 "LoomDesk$Pattern" "ends" "[I", Cond.fieldLink RX1 23 "LoomDesk$Pattern" "insides" "[J", Cond.fieldLink RX1 27 "LoomDesk$Pattern" "carriers" "[I", Cond.fieldLink RX1 30 "LoomDesk$Pattern" "densities" "[I"]
def wsX6_compile_r6 : List Cond := [Cond.methodLink RX2 74 yX5_clear, Cond.instanceMethod yX5_clear, Cond.selects RX5 yX5_clear yX5_clear, Cond.code yX5_clear cX5_clear 1 none, Cond.methodLink RX6 86 yX2_exchange, Cond.instanceMethod yX2_exchange, Cond.selects RX2 yX2_exchange yX2_exchange, Cond.code yX2_exchange cX2_exchange 3 (some (.object "LoomDesk$Pattern")), Cond.methodLink RX6 90 yX3_clear, Cond.instanceMethod yX3_clear, Cond.selects RX3 yX3_clear yX3_clear, Cond.initialized RX3, Cond.code yX3_clear cX3_clear 1 none, Cond.fieldLink RX3 9 "LoomDesk$Records" "marks" "[I"]
def wsX6_compile : List Cond := .code yX6_compile cX6_compile 2 (some .int) :: ((wsX6_compile_r1 ++ (wsX6_compile_r2 ++ (wsX6_compile_r3 ++ (wsX6_compile_r4 ++ (wsX6_compile_r5 ++ wsX6_compile_r6))))) ++ wsX60 ++ wsX40 ++ wsX20 ++ wsX50 ++ wsX10 ++ wsX30)
def wsX6_length : List Cond := .code yX6_length cX6_length 1 (some .long) :: ([.fieldLink RX6 40 "LoomDesk" "pattern" "LLoomDesk$Pattern;"] ++ wsX60 ++ wsX10)
def wsX6_design_r1 : List Cond := [Cond.fieldLink RX6 40 "LoomDesk" "pattern" "LLoomDesk$Pattern;", Cond.methodLink RX6 96 yX1_tell, Cond.instanceMethod yX1_tell, Cond.selects RX1 yX1_tell yX1_tell, Cond.initialized RX1, Cond.code yX1_tell cX1_tell 6 (some .int), Cond.fieldLink RX1 41 "LoomDesk$Pattern" "ahead" "J", Cond.fieldLink RX1 44 "LoomDesk$Pattern" "carrier" "I", Cond.fieldLink RX1 47 "LoomDesk$Pattern" "density" "I", Cond.fieldLink RX1 33 "LoomDesk$Pattern" "size" "I", Cond.fieldLink RX1 13 "LoomDesk$Pattern" "kinds" "[I", Cond.fieldLink RX1 17 "LoomDesk$Pattern" "values" "[I", Cond.methodLink RX1 50 yX1_has, Cond.instanceMethod yX1_has, Cond.selects RX1 yX1_has yX1_has, Cond.code yX1_has cX1_has 3 (some .boolean), Cond.fieldLink RX1 37 "LoomDesk$Pattern" "picks" "J", Cond.methodLink RX1 60 yX1_tellHere, Cond.instanceMethod yX1_tellHere, Cond.selects RX1 yX1_tellHere yX1_tellHere, Cond.code yX1_tellHere cX1_tellHere 3 (some .int), Cond.methodLink RX1 64 yX1_pass, Cond.instanceMethod yX1_pass, Cond.selects RX1 yX1_pass yX1_pass]
def wsX6_design_r2 : List Cond := [Cond.code yX1_pass cX1_pass 2 (some .int), Cond.methodLink RX1 68 yX1_passBracket, Cond.instanceMethod yX1_passBracket, Cond.selects RX1 yX1_passBracket yX1_passBracket, Cond.code yX1_passBracket cX1_passBracket 6 (some .int), Cond.fieldLink RX1 23 "LoomDesk$Pattern" "insides" "[J", Cond.fieldLink RX1 27 "LoomDesk$Pattern" "carriers" "[I", Cond.fieldLink RX1 30 "LoomDesk$Pattern" "densities" "[I", Cond.fieldLink RX1 20 "LoomDesk$Pattern" "ends" "[I"]
def wsX6_design : List Cond := .code yX6_design cX6_design 4 (some .int) :: ((wsX6_design_r1 ++ wsX6_design_r2) ++ wsX60 ++ wsX10)
def wsX6_start : List Cond := .code yX6_start cX6_start 1 (some .boolean) :: ([.fieldLink RX6 65 "LoomDesk" "power" "Z", .fieldLink RX6 19 "LoomDesk" "shaft" "LLoomDesk$Shaft;", .fieldLink RX6 40 "LoomDesk" "pattern" "LLoomDesk$Pattern;", .methodLink RX6 78 yX4_stands, .instanceMethod yX4_stands, .selects RX4 yX4_stands yX4_stands, .initialized RX4, .code yX4_stands cX4_stands 1 (some .boolean), .fieldLink RX4 15 "LoomDesk$Shaft" "mode" "I"] ++ wsX60 ++ wsX10 ++ wsX40)
def wsX6_stop : List Cond := .code yX6_stop cX6_stop 1 (some .boolean) :: ([.fieldLink RX6 19 "LoomDesk" "shaft" "LLoomDesk$Shaft;", .methodLink RX6 103 yX4_orderBrake, .instanceMethod yX4_orderBrake, .selects RX4 yX4_orderBrake yX4_orderBrake, .initialized RX4, .code yX4_orderBrake cX4_orderBrake 1 (some .boolean), .fieldLink RX4 15 "LoomDesk$Shaft" "mode" "I", .fieldLink RX4 21 "LoomDesk$Shaft" "pace" "I", .fieldLink RX4 18 "LoomDesk$Shaft" "toGo" "I", .fieldLink RX4 24 "LoomDesk$Shaft" "orders" "I"] ++ wsX60 ++ wsX40)
def wsX6_sixteenths : List Cond := .code yX6_sixteenths cX6_sixteenths 3 (some .int) :: ([.constantDouble RX6 179 (4620693217682128896)])
def wsX6_insert : List Cond := .code yX6_insert cX6_insert 1 none :: ([.fieldLink RX6 61 "LoomDesk" "breakTold" "Z", .fieldLink RX6 55 "LoomDesk" "pick" "I", .fieldLink RX6 19 "LoomDesk" "shaft" "LLoomDesk$Shaft;", .methodLink RX6 103 yX4_orderBrake, .instanceMethod yX4_orderBrake, .selects RX4 yX4_orderBrake yX4_orderBrake, .initialized RX4, .code yX4_orderBrake cX4_orderBrake 1 (some .boolean), .fieldLink RX4 15 "LoomDesk$Shaft" "mode" "I", .fieldLink RX4 21 "LoomDesk$Shaft" "pace" "I", .fieldLink RX4 18 "LoomDesk$Shaft" "toGo" "I", .fieldLink RX4 24 "LoomDesk$Shaft" "orders" "I"] ++ wsX60 ++ wsX40)
def wsX6_endTurn_r1 : List Cond := [Cond.fieldLink RX6 55 "LoomDesk" "pick" "I", Cond.fieldLink RX6 26 "LoomDesk" "woven" "LLoomDesk$Cloth;", Cond.fieldLink RX6 48 "LoomDesk" "shed" "I", Cond.fieldLink RX6 52 "LoomDesk" "carrier" "I", Cond.fieldLink RX6 40 "LoomDesk" "pattern" "LLoomDesk$Pattern;", Cond.fieldLink RX6 44 "LoomDesk" "place" "J", Cond.fieldLink RX6 58 "LoomDesk" "missed" "I", Cond.fieldLink RX6 33 "LoomDesk" "records" "LLoomDesk$Records;", Cond.fieldLink RX6 19 "LoomDesk" "shaft" "LLoomDesk$Shaft;", Cond.methodLink RX6 96 yX1_tell, Cond.instanceMethod yX1_tell, Cond.selects RX1 yX1_tell yX1_tell, Cond.initialized RX1, Cond.code yX1_tell cX1_tell 6 (some .int), Cond.fieldLink RX1 41 "LoomDesk$Pattern" "ahead" "J", Cond.fieldLink RX1 44 "LoomDesk$Pattern" "carrier" "I", Cond.fieldLink RX1 47 "LoomDesk$Pattern" "density" "I", Cond.fieldLink RX1 33 "LoomDesk$Pattern" "size" "I", Cond.fieldLink RX1 13 "LoomDesk$Pattern" "kinds" "[I", Cond.fieldLink RX1 17 "LoomDesk$Pattern" "values" "[I", Cond.methodLink RX1 50 yX1_has, Cond.instanceMethod yX1_has, Cond.selects RX1 yX1_has yX1_has, Cond.code yX1_has cX1_has 3 (some .boolean)]
def wsX6_endTurn_r2 : List Cond := [Cond.fieldLink RX1 37 "LoomDesk$Pattern" "picks" "J", Cond.methodLink RX1 60 yX1_tellHere, Cond.instanceMethod yX1_tellHere, Cond.selects RX1 yX1_tellHere yX1_tellHere, Cond.code yX1_tellHere cX1_tellHere 3 (some .int), Cond.methodLink RX1 64 yX1_pass, Cond.instanceMethod yX1_pass, Cond.selects RX1 yX1_pass yX1_pass, Cond.code yX1_pass cX1_pass 2 (some .int), Cond.methodLink RX1 68 yX1_passBracket, Cond.instanceMethod yX1_passBracket, Cond.selects RX1 yX1_passBracket yX1_passBracket, Cond.code yX1_passBracket cX1_passBracket 6 (some .int), Cond.fieldLink RX1 23 "LoomDesk$Pattern" "insides" "[J", Cond.fieldLink RX1 27 "LoomDesk$Pattern" "carriers" "[I", Cond.fieldLink RX1 30 "LoomDesk$Pattern" "densities" "[I", Cond.fieldLink RX1 20 "LoomDesk$Pattern" "ends" "[I", Cond.methodLink RX6 235 yX0_beatUp, Cond.instanceMethod yX0_beatUp, Cond.selects RX0 yX0_beatUp yX0_beatUp, Cond.initialized RX0, Cond.code yX0_beatUp cX0_beatUp 5 none, Cond.fieldLink RX0 21 "LoomDesk$Cloth" "next" "I", Cond.fieldLink RX0 11 "LoomDesk$Cloth" "sheds" "[I"]
def wsX6_endTurn_r3 : List Cond := [Cond.fieldLink RX0 15 "LoomDesk$Cloth" "carriers" "[I", Cond.fieldLink RX0 18 "LoomDesk$Cloth" "densities" "[I", Cond.fieldLink RX0 25 "LoomDesk$Cloth" "kept" "I", Cond.methodLink RX0 41 Lib.Math.min.name, Cond.static Lib.Math.min.name, Cond.initialized "java/lang/Math", Cond.code Lib.Math.min.name Lib.Math.min.code 2 (some .int), Cond.fieldLink RX0 28 "LoomDesk$Cloth" "beaten" "J", Cond.fieldLink RX0 32 "LoomDesk$Cloth" "taken" "J", Cond.methodLink RX0 35 yJ9_floorMod_7cf53, Cond.static yJ9_floorMod_7cf53, Cond.initialized RJ9, Cond.code yJ9_floorMod_7cf53 cJ9_floorMod_7cf53 3 (some .int), Cond.methodLink RX0 44 yX0_quarters, Cond.static yX0_quarters, Cond.code yX0_quarters cX0_quarters 1 (some .int), Cond.methodLink RX6 239 yX1_behind, Cond.instanceMethod yX1_behind, Cond.selects RX1 yX1_behind yX1_behind, Cond.code yX1_behind cX1_behind 3 (some .long), Cond.methodLink RX6 228 yX3_write, Cond.instanceMethod yX3_write, Cond.selects RX3 yX3_write yX3_write, Cond.initialized RX3]
def wsX6_endTurn_r4 : List Cond := [Cond.code yX3_write cX3_write 4 none, Cond.fieldLink RX3 19 "LoomDesk$Records" "last" "I", Cond.fieldLink RX3 9 "LoomDesk$Records" "marks" "[I", Cond.fieldLink RX3 15 "LoomDesk$Records" "places" "[J", Cond.methodLink RX3 23 yX3_other, Cond.instanceMethod yX3_other, Cond.selects RX3 yX3_other yX3_other, Cond.code yX3_other cX3_other 1 (some .int)]
def wsX6_endTurn : List Cond := .code yX6_endTurn cX6_endTurn 1 none :: ((wsX6_endTurn_r1 ++ (wsX6_endTurn_r2 ++ (wsX6_endTurn_r3 ++ wsX6_endTurn_r4))) ++ wsX60 ++ wsX40 ++ wsX10 ++ wsX00 ++ wsX30)
def wsX6_comeTo_r1 : List Cond := [Cond.fieldLink RX6 40 "LoomDesk" "pattern" "LLoomDesk$Pattern;", Cond.fieldLink RX6 44 "LoomDesk" "place" "J", Cond.fieldLink RX6 52 "LoomDesk" "carrier" "I", Cond.fieldLink RX6 48 "LoomDesk" "shed" "I", Cond.fieldLink RX6 33 "LoomDesk" "records" "LLoomDesk$Records;", Cond.methodLink RX6 96 yX1_tell, Cond.instanceMethod yX1_tell, Cond.selects RX1 yX1_tell yX1_tell, Cond.initialized RX1, Cond.code yX1_tell cX1_tell 6 (some .int), Cond.fieldLink RX1 41 "LoomDesk$Pattern" "ahead" "J", Cond.fieldLink RX1 44 "LoomDesk$Pattern" "carrier" "I", Cond.fieldLink RX1 47 "LoomDesk$Pattern" "density" "I", Cond.fieldLink RX1 33 "LoomDesk$Pattern" "size" "I", Cond.fieldLink RX1 13 "LoomDesk$Pattern" "kinds" "[I", Cond.fieldLink RX1 17 "LoomDesk$Pattern" "values" "[I", Cond.methodLink RX1 50 yX1_has, Cond.instanceMethod yX1_has, Cond.selects RX1 yX1_has yX1_has, Cond.code yX1_has cX1_has 3 (some .boolean), Cond.fieldLink RX1 37 "LoomDesk$Pattern" "picks" "J", Cond.methodLink RX1 60 yX1_tellHere, Cond.instanceMethod yX1_tellHere, Cond.selects RX1 yX1_tellHere yX1_tellHere]
def wsX6_comeTo_r2 : List Cond := [Cond.code yX1_tellHere cX1_tellHere 3 (some .int), Cond.methodLink RX1 64 yX1_pass, Cond.instanceMethod yX1_pass, Cond.selects RX1 yX1_pass yX1_pass, Cond.code yX1_pass cX1_pass 2 (some .int), Cond.methodLink RX1 68 yX1_passBracket, Cond.instanceMethod yX1_passBracket, Cond.selects RX1 yX1_passBracket yX1_passBracket, Cond.code yX1_passBracket cX1_passBracket 6 (some .int), Cond.fieldLink RX1 23 "LoomDesk$Pattern" "insides" "[J", Cond.fieldLink RX1 27 "LoomDesk$Pattern" "carriers" "[I", Cond.fieldLink RX1 30 "LoomDesk$Pattern" "densities" "[I", Cond.fieldLink RX1 20 "LoomDesk$Pattern" "ends" "[I", Cond.methodLink RX6 225 yX6_insert, Cond.instanceMethod yX6_insert, Cond.selects RX6 yX6_insert yX6_insert, Cond.initialized RX6, Cond.code yX6_insert cX6_insert 1 none, Cond.fieldLink RX6 61 "LoomDesk" "breakTold" "Z", Cond.fieldLink RX6 55 "LoomDesk" "pick" "I", Cond.fieldLink RX6 19 "LoomDesk" "shaft" "LLoomDesk$Shaft;", Cond.methodLink RX6 103 yX4_orderBrake, Cond.instanceMethod yX4_orderBrake, Cond.selects RX4 yX4_orderBrake yX4_orderBrake]
def wsX6_comeTo_r3 : List Cond := [Cond.initialized RX4, Cond.code yX4_orderBrake cX4_orderBrake 1 (some .boolean), Cond.fieldLink RX4 15 "LoomDesk$Shaft" "mode" "I", Cond.fieldLink RX4 21 "LoomDesk$Shaft" "pace" "I", Cond.fieldLink RX4 18 "LoomDesk$Shaft" "toGo" "I", Cond.fieldLink RX4 24 "LoomDesk$Shaft" "orders" "I", Cond.methodLink RX6 228 yX3_write, Cond.instanceMethod yX3_write, Cond.selects RX3 yX3_write yX3_write, Cond.initialized RX3, Cond.code yX3_write cX3_write 4 none, Cond.fieldLink RX3 19 "LoomDesk$Records" "last" "I", Cond.fieldLink RX3 9 "LoomDesk$Records" "marks" "[I", Cond.fieldLink RX3 15 "LoomDesk$Records" "places" "[J", Cond.methodLink RX3 23 yX3_other, Cond.instanceMethod yX3_other, Cond.selects RX3 yX3_other yX3_other, Cond.code yX3_other cX3_other 1 (some .int), Cond.methodLink RX6 232 yX6_endTurn, Cond.instanceMethod yX6_endTurn, Cond.selects RX6 yX6_endTurn yX6_endTurn, Cond.code yX6_endTurn cX6_endTurn 1 none, Cond.fieldLink RX6 26 "LoomDesk" "woven" "LLoomDesk$Cloth;", Cond.fieldLink RX6 58 "LoomDesk" "missed" "I"]
def wsX6_comeTo_r4 : List Cond := [Cond.methodLink RX6 235 yX0_beatUp, Cond.instanceMethod yX0_beatUp, Cond.selects RX0 yX0_beatUp yX0_beatUp, Cond.initialized RX0, Cond.code yX0_beatUp cX0_beatUp 5 none, Cond.fieldLink RX0 21 "LoomDesk$Cloth" "next" "I", Cond.fieldLink RX0 11 "LoomDesk$Cloth" "sheds" "[I", Cond.fieldLink RX0 15 "LoomDesk$Cloth" "carriers" "[I", Cond.fieldLink RX0 18 "LoomDesk$Cloth" "densities" "[I", Cond.fieldLink RX0 25 "LoomDesk$Cloth" "kept" "I", Cond.methodLink RX0 41 Lib.Math.min.name, Cond.static Lib.Math.min.name, Cond.initialized "java/lang/Math", Cond.code Lib.Math.min.name Lib.Math.min.code 2 (some .int), Cond.fieldLink RX0 28 "LoomDesk$Cloth" "beaten" "J", Cond.fieldLink RX0 32 "LoomDesk$Cloth" "taken" "J", Cond.methodLink RX0 35 yJ9_floorMod_7cf53, Cond.static yJ9_floorMod_7cf53, Cond.initialized RJ9, Cond.code yJ9_floorMod_7cf53 cJ9_floorMod_7cf53 3 (some .int), Cond.methodLink RX0 44 yX0_quarters, Cond.static yX0_quarters, Cond.code yX0_quarters cX0_quarters 1 (some .int), Cond.methodLink RX6 239 yX1_behind]
def wsX6_comeTo_r5 : List Cond := [Cond.instanceMethod yX1_behind, Cond.selects RX1 yX1_behind yX1_behind, Cond.code yX1_behind cX1_behind 3 (some .long)]
def wsX6_comeTo : List Cond := .code yX6_comeTo cX6_comeTo 2 none :: ((wsX6_comeTo_r1 ++ (wsX6_comeTo_r2 ++ (wsX6_comeTo_r3 ++ (wsX6_comeTo_r4 ++ wsX6_comeTo_r5)))) ++ wsX60 ++ wsX10 ++ wsX40 ++ wsX30 ++ wsX00)
def wsX6_goForwards_r1 : List Cond := [Cond.fieldLink RX6 19 "LoomDesk" "shaft" "LLoomDesk$Shaft;", Cond.methodLink RX6 78 yX4_stands, Cond.instanceMethod yX4_stands, Cond.selects RX4 yX4_stands yX4_stands, Cond.initialized RX4, Cond.code yX4_stands cX4_stands 1 (some .boolean), Cond.fieldLink RX4 15 "LoomDesk$Shaft" "mode" "I", Cond.methodLink RX6 213 yX4_markAbove, Cond.instanceMethod yX4_markAbove, Cond.selects RX4 yX4_markAbove yX4_markAbove, Cond.code yX4_markAbove cX4_markAbove 1 (some .int), Cond.fieldLink RX4 9 "LoomDesk$Shaft" "at" "I", Cond.methodLink RX6 216 yX4_goTowards, Cond.instanceMethod yX4_goTowards, Cond.selects RX4 yX4_goTowards yX4_goTowards, Cond.code yX4_goTowards cX4_goTowards 4 (some .int), Cond.methodLink RX4 31 Lib.Math.min.name, Cond.static Lib.Math.min.name, Cond.initialized "java/lang/Math", Cond.code Lib.Math.min.name Lib.Math.min.code 2 (some .int), Cond.fieldLink RX4 18 "LoomDesk$Shaft" "toGo" "I", Cond.methodLink RX6 219 yX6_comeTo, Cond.instanceMethod yX6_comeTo, Cond.selects RX6 yX6_comeTo yX6_comeTo]
def wsX6_goForwards_r2 : List Cond := [Cond.initialized RX6, Cond.code yX6_comeTo cX6_comeTo 2 none, Cond.fieldLink RX6 40 "LoomDesk" "pattern" "LLoomDesk$Pattern;", Cond.fieldLink RX6 44 "LoomDesk" "place" "J", Cond.fieldLink RX6 52 "LoomDesk" "carrier" "I", Cond.fieldLink RX6 48 "LoomDesk" "shed" "I", Cond.fieldLink RX6 33 "LoomDesk" "records" "LLoomDesk$Records;", Cond.methodLink RX6 96 yX1_tell, Cond.instanceMethod yX1_tell, Cond.selects RX1 yX1_tell yX1_tell, Cond.initialized RX1, Cond.code yX1_tell cX1_tell 6 (some .int), Cond.fieldLink RX1 41 "LoomDesk$Pattern" "ahead" "J", Cond.fieldLink RX1 44 "LoomDesk$Pattern" "carrier" "I", Cond.fieldLink RX1 47 "LoomDesk$Pattern" "density" "I", Cond.fieldLink RX1 33 "LoomDesk$Pattern" "size" "I", Cond.fieldLink RX1 13 "LoomDesk$Pattern" "kinds" "[I", Cond.fieldLink RX1 17 "LoomDesk$Pattern" "values" "[I", Cond.methodLink RX1 50 yX1_has, Cond.instanceMethod yX1_has, Cond.selects RX1 yX1_has yX1_has, Cond.code yX1_has cX1_has 3 (some .boolean), Cond.fieldLink RX1 37 "LoomDesk$Pattern" "picks" "J", Cond.methodLink RX1 60 yX1_tellHere]
def wsX6_goForwards_r3 : List Cond := [Cond.instanceMethod yX1_tellHere, Cond.selects RX1 yX1_tellHere yX1_tellHere, Cond.code yX1_tellHere cX1_tellHere 3 (some .int), Cond.methodLink RX1 64 yX1_pass, Cond.instanceMethod yX1_pass, Cond.selects RX1 yX1_pass yX1_pass, Cond.code yX1_pass cX1_pass 2 (some .int), Cond.methodLink RX1 68 yX1_passBracket, Cond.instanceMethod yX1_passBracket, Cond.selects RX1 yX1_passBracket yX1_passBracket, Cond.code yX1_passBracket cX1_passBracket 6 (some .int), Cond.fieldLink RX1 23 "LoomDesk$Pattern" "insides" "[J", Cond.fieldLink RX1 27 "LoomDesk$Pattern" "carriers" "[I", Cond.fieldLink RX1 30 "LoomDesk$Pattern" "densities" "[I", Cond.fieldLink RX1 20 "LoomDesk$Pattern" "ends" "[I", Cond.methodLink RX6 225 yX6_insert, Cond.instanceMethod yX6_insert, Cond.selects RX6 yX6_insert yX6_insert, Cond.code yX6_insert cX6_insert 1 none, Cond.fieldLink RX6 61 "LoomDesk" "breakTold" "Z", Cond.fieldLink RX6 55 "LoomDesk" "pick" "I", Cond.methodLink RX6 103 yX4_orderBrake, Cond.instanceMethod yX4_orderBrake, Cond.selects RX4 yX4_orderBrake yX4_orderBrake]
def wsX6_goForwards_r4 : List Cond := [Cond.code yX4_orderBrake cX4_orderBrake 1 (some .boolean), Cond.fieldLink RX4 21 "LoomDesk$Shaft" "pace" "I", Cond.fieldLink RX4 24 "LoomDesk$Shaft" "orders" "I", Cond.methodLink RX6 228 yX3_write, Cond.instanceMethod yX3_write, Cond.selects RX3 yX3_write yX3_write, Cond.initialized RX3, Cond.code yX3_write cX3_write 4 none, Cond.fieldLink RX3 19 "LoomDesk$Records" "last" "I", Cond.fieldLink RX3 9 "LoomDesk$Records" "marks" "[I", Cond.fieldLink RX3 15 "LoomDesk$Records" "places" "[J", Cond.methodLink RX3 23 yX3_other, Cond.instanceMethod yX3_other, Cond.selects RX3 yX3_other yX3_other, Cond.code yX3_other cX3_other 1 (some .int), Cond.methodLink RX6 232 yX6_endTurn, Cond.instanceMethod yX6_endTurn, Cond.selects RX6 yX6_endTurn yX6_endTurn, Cond.code yX6_endTurn cX6_endTurn 1 none, Cond.fieldLink RX6 26 "LoomDesk" "woven" "LLoomDesk$Cloth;", Cond.fieldLink RX6 58 "LoomDesk" "missed" "I", Cond.methodLink RX6 235 yX0_beatUp, Cond.instanceMethod yX0_beatUp, Cond.selects RX0 yX0_beatUp yX0_beatUp]
def wsX6_goForwards_r5 : List Cond := [Cond.initialized RX0, Cond.code yX0_beatUp cX0_beatUp 5 none, Cond.fieldLink RX0 21 "LoomDesk$Cloth" "next" "I", Cond.fieldLink RX0 11 "LoomDesk$Cloth" "sheds" "[I", Cond.fieldLink RX0 15 "LoomDesk$Cloth" "carriers" "[I", Cond.fieldLink RX0 18 "LoomDesk$Cloth" "densities" "[I", Cond.fieldLink RX0 25 "LoomDesk$Cloth" "kept" "I", Cond.methodLink RX0 41 Lib.Math.min.name, Cond.fieldLink RX0 28 "LoomDesk$Cloth" "beaten" "J", Cond.fieldLink RX0 32 "LoomDesk$Cloth" "taken" "J", Cond.methodLink RX0 35 yJ9_floorMod_7cf53, Cond.static yJ9_floorMod_7cf53, Cond.initialized RJ9, Cond.code yJ9_floorMod_7cf53 cJ9_floorMod_7cf53 3 (some .int), Cond.methodLink RX0 44 yX0_quarters, Cond.static yX0_quarters, Cond.code yX0_quarters cX0_quarters 1 (some .int), Cond.methodLink RX6 239 yX1_behind, Cond.instanceMethod yX1_behind, Cond.selects RX1 yX1_behind yX1_behind, Cond.code yX1_behind cX1_behind 3 (some .long), Cond.methodLink RX6 222 yX4_standWhenSpent, Cond.instanceMethod yX4_standWhenSpent, Cond.selects RX4 yX4_standWhenSpent yX4_standWhenSpent]
def wsX6_goForwards_r6 : List Cond := [Cond.code yX4_standWhenSpent cX4_standWhenSpent 1 none, Cond.methodLink RX4 37 yX4_stand, Cond.instanceMethod yX4_stand, Cond.selects RX4 yX4_stand yX4_stand, Cond.code yX4_stand cX4_stand 1 none]
def wsX6_goForwards : List Cond := .code yX6_goForwards cX6_goForwards 5 (some .int) :: ((wsX6_goForwards_r1 ++ (wsX6_goForwards_r2 ++ (wsX6_goForwards_r3 ++ (wsX6_goForwards_r4 ++ (wsX6_goForwards_r5 ++ wsX6_goForwards_r6))))) ++ wsX60 ++ wsX40 ++ wsX10 ++ wsX30 ++ wsX00)
def wsX6_degrees : List Cond := .code yX6_degrees cX6_degrees 1 (some .double) :: ([.constantDouble RX6 211 (4625196817309499392)])
def wsX6_turn_r1 : List Cond := [Cond.classLink RX6 106 "java/lang/IllegalStateException", Cond.initialized "java/lang/IllegalStateException", Cond.classLink RX6 115 "java/lang/IllegalArgumentException", Cond.initialized "java/lang/IllegalArgumentException", Cond.fieldLink RX6 65 "LoomDesk" "power" "Z", Cond.fieldLink RX6 19 "LoomDesk" "shaft" "LLoomDesk$Shaft;", Cond.constantDouble RX6 113 (4660134898793709568), Cond.methodLink RX6 78 yX4_stands, Cond.instanceMethod yX4_stands, Cond.selects RX4 yX4_stands yX4_stands, Cond.initialized RX4, Cond.code yX4_stands cX4_stands 1 (some .boolean), Cond.fieldLink RX4 15 "LoomDesk$Shaft" "mode" "I", Cond.methodLink RX6 120 yX6_sixteenths, Cond.static yX6_sixteenths, Cond.initialized RX6, Cond.code yX6_sixteenths cX6_sixteenths 3 (some .int), Cond.constantDouble RX6 179 (4620693217682128896), Cond.methodLink RX6 124 yX6_goForwards, Cond.instanceMethod yX6_goForwards, Cond.selects RX6 yX6_goForwards yX6_goForwards, Cond.code yX6_goForwards cX6_goForwards 5 (some .int), Cond.methodLink RX6 213 yX4_markAbove, Cond.instanceMethod yX4_markAbove]
def wsX6_turn_r2 : List Cond := [Cond.selects RX4 yX4_markAbove yX4_markAbove, Cond.code yX4_markAbove cX4_markAbove 1 (some .int), Cond.fieldLink RX4 9 "LoomDesk$Shaft" "at" "I", Cond.methodLink RX6 216 yX4_goTowards, Cond.instanceMethod yX4_goTowards, Cond.selects RX4 yX4_goTowards yX4_goTowards, Cond.code yX4_goTowards cX4_goTowards 4 (some .int), Cond.methodLink RX4 31 Lib.Math.min.name, Cond.static Lib.Math.min.name, Cond.initialized "java/lang/Math", Cond.code Lib.Math.min.name Lib.Math.min.code 2 (some .int), Cond.fieldLink RX4 18 "LoomDesk$Shaft" "toGo" "I", Cond.methodLink RX6 219 yX6_comeTo, Cond.instanceMethod yX6_comeTo, Cond.selects RX6 yX6_comeTo yX6_comeTo, Cond.code yX6_comeTo cX6_comeTo 2 none, Cond.fieldLink RX6 40 "LoomDesk" "pattern" "LLoomDesk$Pattern;", Cond.fieldLink RX6 44 "LoomDesk" "place" "J", Cond.fieldLink RX6 52 "LoomDesk" "carrier" "I", Cond.fieldLink RX6 48 "LoomDesk" "shed" "I", Cond.fieldLink RX6 33 "LoomDesk" "records" "LLoomDesk$Records;", Cond.methodLink RX6 96 yX1_tell, Cond.instanceMethod yX1_tell, Cond.selects RX1 yX1_tell yX1_tell]
def wsX6_turn_r3 : List Cond := [Cond.initialized RX1, Cond.code yX1_tell cX1_tell 6 (some .int), Cond.fieldLink RX1 41 "LoomDesk$Pattern" "ahead" "J", Cond.fieldLink RX1 44 "LoomDesk$Pattern" "carrier" "I", Cond.fieldLink RX1 47 "LoomDesk$Pattern" "density" "I", Cond.fieldLink RX1 33 "LoomDesk$Pattern" "size" "I", Cond.fieldLink RX1 13 "LoomDesk$Pattern" "kinds" "[I", Cond.fieldLink RX1 17 "LoomDesk$Pattern" "values" "[I", Cond.methodLink RX1 50 yX1_has, Cond.instanceMethod yX1_has, Cond.selects RX1 yX1_has yX1_has, Cond.code yX1_has cX1_has 3 (some .boolean), Cond.fieldLink RX1 37 "LoomDesk$Pattern" "picks" "J", Cond.methodLink RX1 60 yX1_tellHere, Cond.instanceMethod yX1_tellHere, Cond.selects RX1 yX1_tellHere yX1_tellHere, Cond.code yX1_tellHere cX1_tellHere 3 (some .int), Cond.methodLink RX1 64 yX1_pass, Cond.instanceMethod yX1_pass, Cond.selects RX1 yX1_pass yX1_pass, Cond.code yX1_pass cX1_pass 2 (some .int), Cond.methodLink RX1 68 yX1_passBracket, Cond.instanceMethod yX1_passBracket, Cond.selects RX1 yX1_passBracket yX1_passBracket]
def wsX6_turn_r4 : List Cond := [Cond.code yX1_passBracket cX1_passBracket 6 (some .int), Cond.fieldLink RX1 23 "LoomDesk$Pattern" "insides" "[J", Cond.fieldLink RX1 27 "LoomDesk$Pattern" "carriers" "[I", Cond.fieldLink RX1 30 "LoomDesk$Pattern" "densities" "[I", Cond.fieldLink RX1 20 "LoomDesk$Pattern" "ends" "[I", Cond.methodLink RX6 225 yX6_insert, Cond.instanceMethod yX6_insert, Cond.selects RX6 yX6_insert yX6_insert, Cond.code yX6_insert cX6_insert 1 none, Cond.fieldLink RX6 61 "LoomDesk" "breakTold" "Z", Cond.fieldLink RX6 55 "LoomDesk" "pick" "I", Cond.methodLink RX6 103 yX4_orderBrake, Cond.instanceMethod yX4_orderBrake, Cond.selects RX4 yX4_orderBrake yX4_orderBrake, Cond.code yX4_orderBrake cX4_orderBrake 1 (some .boolean), Cond.fieldLink RX4 21 "LoomDesk$Shaft" "pace" "I", Cond.fieldLink RX4 24 "LoomDesk$Shaft" "orders" "I", Cond.methodLink RX6 228 yX3_write, Cond.instanceMethod yX3_write, Cond.selects RX3 yX3_write yX3_write, Cond.initialized RX3, Cond.code yX3_write cX3_write 4 none, Cond.fieldLink RX3 19 "LoomDesk$Records" "last" "I", Cond.fieldLink RX3 9 "LoomDesk$Records" "marks" "[I"]
def wsX6_turn_r5 : List Cond := [Cond.fieldLink RX3 15 "LoomDesk$Records" "places" "[J", Cond.methodLink RX3 23 yX3_other, Cond.instanceMethod yX3_other, Cond.selects RX3 yX3_other yX3_other, Cond.code yX3_other cX3_other 1 (some .int), Cond.methodLink RX6 232 yX6_endTurn, Cond.instanceMethod yX6_endTurn, Cond.selects RX6 yX6_endTurn yX6_endTurn, Cond.code yX6_endTurn cX6_endTurn 1 none, Cond.fieldLink RX6 26 "LoomDesk" "woven" "LLoomDesk$Cloth;", Cond.fieldLink RX6 58 "LoomDesk" "missed" "I", Cond.methodLink RX6 235 yX0_beatUp, Cond.instanceMethod yX0_beatUp, Cond.selects RX0 yX0_beatUp yX0_beatUp, Cond.initialized RX0, Cond.code yX0_beatUp cX0_beatUp 5 none, Cond.fieldLink RX0 21 "LoomDesk$Cloth" "next" "I", Cond.fieldLink RX0 11 "LoomDesk$Cloth" "sheds" "[I", Cond.fieldLink RX0 15 "LoomDesk$Cloth" "carriers" "[I", Cond.fieldLink RX0 18 "LoomDesk$Cloth" "densities" "[I", Cond.fieldLink RX0 25 "LoomDesk$Cloth" "kept" "I", Cond.methodLink RX0 41 Lib.Math.min.name, Cond.fieldLink RX0 28 "LoomDesk$Cloth" "beaten" "J", Cond.fieldLink RX0 32 "LoomDesk$Cloth" "taken" "J"]
def wsX6_turn_r6 : List Cond := [Cond.methodLink RX0 35 yJ9_floorMod_7cf53, Cond.static yJ9_floorMod_7cf53, Cond.initialized RJ9, Cond.code yJ9_floorMod_7cf53 cJ9_floorMod_7cf53 3 (some .int), Cond.methodLink RX0 44 yX0_quarters, Cond.static yX0_quarters, Cond.code yX0_quarters cX0_quarters 1 (some .int), Cond.methodLink RX6 239 yX1_behind, Cond.instanceMethod yX1_behind, Cond.selects RX1 yX1_behind yX1_behind, Cond.code yX1_behind cX1_behind 3 (some .long), Cond.methodLink RX6 222 yX4_standWhenSpent, Cond.instanceMethod yX4_standWhenSpent, Cond.selects RX4 yX4_standWhenSpent yX4_standWhenSpent, Cond.code yX4_standWhenSpent cX4_standWhenSpent 1 none, Cond.methodLink RX4 37 yX4_stand, Cond.instanceMethod yX4_stand, Cond.selects RX4 yX4_stand yX4_stand, Cond.code yX4_stand cX4_stand 1 none, Cond.methodLink RX6 128 yX6_degrees, Cond.static yX6_degrees, Cond.code yX6_degrees cX6_degrees 1 (some .double), Cond.constantDouble RX6 211 (4625196817309499392)]
def wsX6_turn : List Cond := .code yX6_turn cX6_turn 3 (some .double) :: ((wsX6_turn_r1 ++ (wsX6_turn_r2 ++ (wsX6_turn_r3 ++ (wsX6_turn_r4 ++ (wsX6_turn_r5 ++ wsX6_turn_r6))))) ++ wsX60 ++ wsX40 ++ wsX10 ++ wsX30 ++ wsX00 ++ (vx_atS RX6 110 "java/lang/IllegalStateException" ["java/lang/RuntimeException", "java/lang/Exception"]).filter goodWord ++ (vx_atS RX6 119 "java/lang/IllegalArgumentException" ["java/lang/RuntimeException", "java/lang/Exception"]).filter goodWord)
def wsX6_reopenTurn_r1 : List Cond := [Cond.fieldLink RX6 55 "LoomDesk" "pick" "I", Cond.fieldLink RX6 26 "LoomDesk" "woven" "LLoomDesk$Cloth;", Cond.fieldLink RX6 40 "LoomDesk" "pattern" "LLoomDesk$Pattern;", Cond.fieldLink RX6 44 "LoomDesk" "place" "J", Cond.fieldLink RX6 19 "LoomDesk" "shaft" "LLoomDesk$Shaft;", Cond.methodLink RX6 252 yX0_takeOff, Cond.instanceMethod yX0_takeOff, Cond.selects RX0 yX0_takeOff yX0_takeOff, Cond.initialized RX0, Cond.code yX0_takeOff cX0_takeOff 1 (some .boolean), Cond.fieldLink RX0 25 "LoomDesk$Cloth" "kept" "I", Cond.fieldLink RX0 21 "LoomDesk$Cloth" "next" "I", Cond.fieldLink RX0 28 "LoomDesk$Cloth" "beaten" "J", Cond.fieldLink RX0 32 "LoomDesk$Cloth" "taken" "J", Cond.fieldLink RX0 18 "LoomDesk$Cloth" "densities" "[I", Cond.methodLink RX0 48 yX0_slotOf, Cond.instanceMethod yX0_slotOf, Cond.selects RX0 yX0_slotOf yX0_slotOf, Cond.code yX0_slotOf cX0_slotOf 2 (some .int), Cond.methodLink RX0 35 yJ9_floorMod_7cf53, Cond.static yJ9_floorMod_7cf53, Cond.initialized RJ9, Cond.code yJ9_floorMod_7cf53 cJ9_floorMod_7cf53 3 (some .int), Cond.methodLink RX0 44 yX0_quarters]
def wsX6_reopenTurn_r2 : List Cond := [Cond.static yX0_quarters, Cond.code yX0_quarters cX0_quarters 1 (some .int), Cond.methodLink RX6 255 yX1_before, Cond.instanceMethod yX1_before, Cond.selects RX1 yX1_before yX1_before, Cond.initialized RX1, Cond.code yX1_before cX1_before 3 (some .long), Cond.fieldLink RX1 37 "LoomDesk$Pattern" "picks" "J", Cond.methodLink RX1 54 Lib.MathLoose.max_long.x, Cond.static Lib.MathLoose.max_long.x, Cond.initialized "java/lang/Math", Cond.code Lib.MathLoose.max_long.x Lib.MathLoose.max_long.code 4 (some .long), Cond.methodLink RX1 50 yX1_has, Cond.instanceMethod yX1_has, Cond.selects RX1 yX1_has yX1_has, Cond.code yX1_has cX1_has 3 (some .boolean)]
def wsX6_reopenTurn : List Cond := .code yX6_reopenTurn cX6_reopenTurn 1 none :: ((wsX6_reopenTurn_r1 ++ wsX6_reopenTurn_r2) ++ wsX60 ++ wsX40 ++ wsX00 ++ wsX10)
def wsX6_undo_r1 : List Cond := [Cond.fieldLink RX6 55 "LoomDesk" "pick" "I", Cond.methodLink RX6 249 yX6_reopenTurn, Cond.instanceMethod yX6_reopenTurn, Cond.selects RX6 yX6_reopenTurn yX6_reopenTurn, Cond.initialized RX6, Cond.code yX6_reopenTurn cX6_reopenTurn 1 none, Cond.fieldLink RX6 26 "LoomDesk" "woven" "LLoomDesk$Cloth;", Cond.fieldLink RX6 40 "LoomDesk" "pattern" "LLoomDesk$Pattern;", Cond.fieldLink RX6 44 "LoomDesk" "place" "J", Cond.fieldLink RX6 19 "LoomDesk" "shaft" "LLoomDesk$Shaft;", Cond.methodLink RX6 252 yX0_takeOff, Cond.instanceMethod yX0_takeOff, Cond.selects RX0 yX0_takeOff yX0_takeOff, Cond.initialized RX0, Cond.code yX0_takeOff cX0_takeOff 1 (some .boolean), Cond.fieldLink RX0 25 "LoomDesk$Cloth" "kept" "I", Cond.fieldLink RX0 21 "LoomDesk$Cloth" "next" "I", Cond.fieldLink RX0 28 "LoomDesk$Cloth" "beaten" "J", Cond.fieldLink RX0 32 "LoomDesk$Cloth" "taken" "J", Cond.fieldLink RX0 18 "LoomDesk$Cloth" "densities" "[I", Cond.methodLink RX0 48 yX0_slotOf, Cond.instanceMethod yX0_slotOf, Cond.selects RX0 yX0_slotOf yX0_slotOf, Cond.code yX0_slotOf cX0_slotOf 2 (some .int)]
def wsX6_undo_r2 : List Cond := [Cond.methodLink RX0 35 yJ9_floorMod_7cf53, Cond.static yJ9_floorMod_7cf53, Cond.initialized RJ9, Cond.code yJ9_floorMod_7cf53 cJ9_floorMod_7cf53 3 (some .int), Cond.methodLink RX0 44 yX0_quarters, Cond.static yX0_quarters, Cond.code yX0_quarters cX0_quarters 1 (some .int), Cond.methodLink RX6 255 yX1_before, Cond.instanceMethod yX1_before, Cond.selects RX1 yX1_before yX1_before, Cond.initialized RX1, Cond.code yX1_before cX1_before 3 (some .long), Cond.fieldLink RX1 37 "LoomDesk$Pattern" "picks" "J", Cond.methodLink RX1 54 Lib.MathLoose.max_long.x, Cond.static Lib.MathLoose.max_long.x, Cond.initialized "java/lang/Math", Cond.code Lib.MathLoose.max_long.x Lib.MathLoose.max_long.code 4 (some .long), Cond.methodLink RX1 50 yX1_has, Cond.instanceMethod yX1_has, Cond.selects RX1 yX1_has yX1_has, Cond.code yX1_has cX1_has 3 (some .boolean)]
def wsX6_undo : List Cond := .code yX6_undo cX6_undo 2 none :: ((wsX6_undo_r1 ++ wsX6_undo_r2) ++ wsX60 ++ wsX40 ++ wsX00 ++ wsX10)
def wsX6_goBackwards_r1 : List Cond := [Cond.fieldLink RX6 19 "LoomDesk" "shaft" "LLoomDesk$Shaft;", Cond.methodLink RX6 243 yX4_markBelow, Cond.instanceMethod yX4_markBelow, Cond.selects RX4 yX4_markBelow yX4_markBelow, Cond.initialized RX4, Cond.code yX4_markBelow cX4_markBelow 2 (some .int), Cond.methodLink RX6 246 yX6_undo, Cond.instanceMethod yX6_undo, Cond.selects RX6 yX6_undo yX6_undo, Cond.initialized RX6, Cond.code yX6_undo cX6_undo 2 none, Cond.fieldLink RX6 55 "LoomDesk" "pick" "I", Cond.methodLink RX6 249 yX6_reopenTurn, Cond.instanceMethod yX6_reopenTurn, Cond.selects RX6 yX6_reopenTurn yX6_reopenTurn, Cond.code yX6_reopenTurn cX6_reopenTurn 1 none, Cond.fieldLink RX6 26 "LoomDesk" "woven" "LLoomDesk$Cloth;", Cond.fieldLink RX6 40 "LoomDesk" "pattern" "LLoomDesk$Pattern;", Cond.fieldLink RX6 44 "LoomDesk" "place" "J", Cond.methodLink RX6 252 yX0_takeOff, Cond.instanceMethod yX0_takeOff, Cond.selects RX0 yX0_takeOff yX0_takeOff, Cond.initialized RX0, Cond.code yX0_takeOff cX0_takeOff 1 (some .boolean)]
def wsX6_goBackwards_r2 : List Cond := [Cond.fieldLink RX0 25 "LoomDesk$Cloth" "kept" "I", Cond.fieldLink RX0 21 "LoomDesk$Cloth" "next" "I", Cond.fieldLink RX0 28 "LoomDesk$Cloth" "beaten" "J", Cond.fieldLink RX0 32 "LoomDesk$Cloth" "taken" "J", Cond.fieldLink RX0 18 "LoomDesk$Cloth" "densities" "[I", Cond.methodLink RX0 48 yX0_slotOf, Cond.instanceMethod yX0_slotOf, Cond.selects RX0 yX0_slotOf yX0_slotOf, Cond.code yX0_slotOf cX0_slotOf 2 (some .int), Cond.methodLink RX0 35 yJ9_floorMod_7cf53, Cond.static yJ9_floorMod_7cf53, Cond.initialized RJ9, Cond.code yJ9_floorMod_7cf53 cJ9_floorMod_7cf53 3 (some .int), Cond.methodLink RX0 44 yX0_quarters, Cond.static yX0_quarters, Cond.code yX0_quarters cX0_quarters 1 (some .int), Cond.methodLink RX6 255 yX1_before, Cond.instanceMethod yX1_before, Cond.selects RX1 yX1_before yX1_before, Cond.initialized RX1, Cond.code yX1_before cX1_before 3 (some .long), Cond.fieldLink RX1 37 "LoomDesk$Pattern" "picks" "J", Cond.methodLink RX1 54 Lib.MathLoose.max_long.x, Cond.static Lib.MathLoose.max_long.x]
def wsX6_goBackwards_r3 : List Cond := [Cond.initialized "java/lang/Math", Cond.code Lib.MathLoose.max_long.x Lib.MathLoose.max_long.code 4 (some .long), Cond.methodLink RX1 50 yX1_has, Cond.instanceMethod yX1_has, Cond.selects RX1 yX1_has yX1_has, Cond.code yX1_has cX1_has 3 (some .boolean)]
def wsX6_goBackwards : List Cond := .code yX6_goBackwards cX6_goBackwards 7 none :: ((wsX6_goBackwards_r1 ++ (wsX6_goBackwards_r2 ++ wsX6_goBackwards_r3)) ++ wsX60 ++ wsX40 ++ wsX00 ++ wsX10)
def wsX6_back_r1 : List Cond := [Cond.classLink RX6 106 "java/lang/IllegalStateException", Cond.initialized "java/lang/IllegalStateException", Cond.classLink RX6 115 "java/lang/IllegalArgumentException", Cond.initialized "java/lang/IllegalArgumentException", Cond.fieldLink RX6 65 "LoomDesk" "power" "Z", Cond.fieldLink RX6 19 "LoomDesk" "shaft" "LLoomDesk$Shaft;", Cond.fieldLink RX6 40 "LoomDesk" "pattern" "LLoomDesk$Pattern;", Cond.constantDouble RX6 134 (4652464705678344192), Cond.methodLink RX6 78 yX4_stands, Cond.instanceMethod yX4_stands, Cond.selects RX4 yX4_stands yX4_stands, Cond.initialized RX4, Cond.code yX4_stands cX4_stands 1 (some .boolean), Cond.fieldLink RX4 15 "LoomDesk$Shaft" "mode" "I", Cond.methodLink RX6 120 yX6_sixteenths, Cond.static yX6_sixteenths, Cond.initialized RX6, Cond.code yX6_sixteenths cX6_sixteenths 3 (some .int), Cond.constantDouble RX6 179 (4620693217682128896), Cond.methodLink RX6 138 yX6_goBackwards, Cond.instanceMethod yX6_goBackwards, Cond.selects RX6 yX6_goBackwards yX6_goBackwards, Cond.code yX6_goBackwards cX6_goBackwards 7 none, Cond.methodLink RX6 243 yX4_markBelow]
def wsX6_back_r2 : List Cond := [Cond.instanceMethod yX4_markBelow, Cond.selects RX4 yX4_markBelow yX4_markBelow, Cond.code yX4_markBelow cX4_markBelow 2 (some .int), Cond.methodLink RX6 246 yX6_undo, Cond.instanceMethod yX6_undo, Cond.selects RX6 yX6_undo yX6_undo, Cond.code yX6_undo cX6_undo 2 none, Cond.fieldLink RX6 55 "LoomDesk" "pick" "I", Cond.methodLink RX6 249 yX6_reopenTurn, Cond.instanceMethod yX6_reopenTurn, Cond.selects RX6 yX6_reopenTurn yX6_reopenTurn, Cond.code yX6_reopenTurn cX6_reopenTurn 1 none, Cond.fieldLink RX6 26 "LoomDesk" "woven" "LLoomDesk$Cloth;", Cond.fieldLink RX6 44 "LoomDesk" "place" "J", Cond.methodLink RX6 252 yX0_takeOff, Cond.instanceMethod yX0_takeOff, Cond.selects RX0 yX0_takeOff yX0_takeOff, Cond.initialized RX0, Cond.code yX0_takeOff cX0_takeOff 1 (some .boolean), Cond.fieldLink RX0 25 "LoomDesk$Cloth" "kept" "I", Cond.fieldLink RX0 21 "LoomDesk$Cloth" "next" "I", Cond.fieldLink RX0 28 "LoomDesk$Cloth" "beaten" "J", Cond.fieldLink RX0 32 "LoomDesk$Cloth" "taken" "J", Cond.fieldLink RX0 18 "LoomDesk$Cloth" "densities" "[I"]
def wsX6_back_r3 : List Cond := [Cond.methodLink RX0 48 yX0_slotOf, Cond.instanceMethod yX0_slotOf, Cond.selects RX0 yX0_slotOf yX0_slotOf, Cond.code yX0_slotOf cX0_slotOf 2 (some .int), Cond.methodLink RX0 35 yJ9_floorMod_7cf53, Cond.static yJ9_floorMod_7cf53, Cond.initialized RJ9, Cond.code yJ9_floorMod_7cf53 cJ9_floorMod_7cf53 3 (some .int), Cond.methodLink RX0 44 yX0_quarters, Cond.static yX0_quarters, Cond.code yX0_quarters cX0_quarters 1 (some .int), Cond.methodLink RX6 255 yX1_before, Cond.instanceMethod yX1_before, Cond.selects RX1 yX1_before yX1_before, Cond.initialized RX1, Cond.code yX1_before cX1_before 3 (some .long), Cond.fieldLink RX1 37 "LoomDesk$Pattern" "picks" "J", Cond.methodLink RX1 54 Lib.MathLoose.max_long.x, Cond.static Lib.MathLoose.max_long.x, Cond.initialized "java/lang/Math", Cond.code Lib.MathLoose.max_long.x Lib.MathLoose.max_long.code 4 (some .long), Cond.methodLink RX1 50 yX1_has, Cond.instanceMethod yX1_has, Cond.selects RX1 yX1_has yX1_has]
def wsX6_back_r4 : List Cond := [Cond.code yX1_has cX1_has 3 (some .boolean), Cond.methodLink RX6 128 yX6_degrees, Cond.static yX6_degrees, Cond.code yX6_degrees cX6_degrees 1 (some .double), Cond.constantDouble RX6 211 (4625196817309499392)]
def wsX6_back : List Cond := .code yX6_back cX6_back 3 (some .double) :: ((wsX6_back_r1 ++ (wsX6_back_r2 ++ (wsX6_back_r3 ++ wsX6_back_r4))) ++ wsX60 ++ wsX10 ++ wsX40 ++ wsX00 ++ (vx_atS RX6 110 "java/lang/IllegalStateException" ["java/lang/RuntimeException", "java/lang/Exception"]).filter goodWord ++ (vx_atS RX6 119 "java/lang/IllegalArgumentException" ["java/lang/RuntimeException", "java/lang/Exception"]).filter goodWord)
def wsX6_weft : List Cond := .code yX6_weft cX6_weft 2 (some .boolean) :: ([.fieldLink RX6 65 "LoomDesk" "power" "Z", .fieldLink RX6 61 "LoomDesk" "breakTold" "Z"] ++ wsX60)
def wsX6_findPick_r1 : List Cond := [Cond.fieldLink RX6 65 "LoomDesk" "power" "Z", Cond.fieldLink RX6 19 "LoomDesk" "shaft" "LLoomDesk$Shaft;", Cond.fieldLink RX6 55 "LoomDesk" "pick" "I", Cond.methodLink RX6 78 yX4_stands, Cond.instanceMethod yX4_stands, Cond.selects RX4 yX4_stands yX4_stands, Cond.initialized RX4, Cond.code yX4_stands cX4_stands 1 (some .boolean), Cond.fieldLink RX4 15 "LoomDesk$Shaft" "mode" "I", Cond.methodLink RX6 138 yX6_goBackwards, Cond.instanceMethod yX6_goBackwards, Cond.selects RX6 yX6_goBackwards yX6_goBackwards, Cond.initialized RX6, Cond.code yX6_goBackwards cX6_goBackwards 7 none, Cond.methodLink RX6 243 yX4_markBelow, Cond.instanceMethod yX4_markBelow, Cond.selects RX4 yX4_markBelow yX4_markBelow, Cond.code yX4_markBelow cX4_markBelow 2 (some .int), Cond.methodLink RX6 246 yX6_undo, Cond.instanceMethod yX6_undo, Cond.selects RX6 yX6_undo yX6_undo, Cond.code yX6_undo cX6_undo 2 none, Cond.methodLink RX6 249 yX6_reopenTurn, Cond.instanceMethod yX6_reopenTurn]
def wsX6_findPick_r2 : List Cond := [Cond.selects RX6 yX6_reopenTurn yX6_reopenTurn, Cond.code yX6_reopenTurn cX6_reopenTurn 1 none, Cond.fieldLink RX6 26 "LoomDesk" "woven" "LLoomDesk$Cloth;", Cond.fieldLink RX6 40 "LoomDesk" "pattern" "LLoomDesk$Pattern;", Cond.fieldLink RX6 44 "LoomDesk" "place" "J", Cond.methodLink RX6 252 yX0_takeOff, Cond.instanceMethod yX0_takeOff, Cond.selects RX0 yX0_takeOff yX0_takeOff, Cond.initialized RX0, Cond.code yX0_takeOff cX0_takeOff 1 (some .boolean), Cond.fieldLink RX0 25 "LoomDesk$Cloth" "kept" "I", Cond.fieldLink RX0 21 "LoomDesk$Cloth" "next" "I", Cond.fieldLink RX0 28 "LoomDesk$Cloth" "beaten" "J", Cond.fieldLink RX0 32 "LoomDesk$Cloth" "taken" "J", Cond.fieldLink RX0 18 "LoomDesk$Cloth" "densities" "[I", Cond.methodLink RX0 48 yX0_slotOf, Cond.instanceMethod yX0_slotOf, Cond.selects RX0 yX0_slotOf yX0_slotOf, Cond.code yX0_slotOf cX0_slotOf 2 (some .int), Cond.methodLink RX0 35 yJ9_floorMod_7cf53, Cond.static yJ9_floorMod_7cf53, Cond.initialized RJ9, Cond.code yJ9_floorMod_7cf53 cJ9_floorMod_7cf53 3 (some .int), Cond.methodLink RX0 44 yX0_quarters]
def wsX6_findPick_r3 : List Cond := [Cond.static yX0_quarters, Cond.code yX0_quarters cX0_quarters 1 (some .int), Cond.methodLink RX6 255 yX1_before, Cond.instanceMethod yX1_before, Cond.selects RX1 yX1_before yX1_before, Cond.initialized RX1, Cond.code yX1_before cX1_before 3 (some .long), Cond.fieldLink RX1 37 "LoomDesk$Pattern" "picks" "J", Cond.methodLink RX1 54 Lib.MathLoose.max_long.x, Cond.static Lib.MathLoose.max_long.x, Cond.initialized "java/lang/Math", Cond.code Lib.MathLoose.max_long.x Lib.MathLoose.max_long.code 4 (some .long), Cond.methodLink RX1 50 yX1_has, Cond.instanceMethod yX1_has, Cond.selects RX1 yX1_has yX1_has, Cond.code yX1_has cX1_has 3 (some .boolean)]
def wsX6_findPick : List Cond := .code yX6_findPick cX6_findPick 1 (some .boolean) :: ((wsX6_findPick_r1 ++ (wsX6_findPick_r2 ++ wsX6_findPick_r3)) ++ wsX60 ++ wsX40 ++ wsX00 ++ wsX10)
def wsX6_jump : List Cond := .code yX6_jump cX6_jump 3 (some .boolean) :: ([.fieldLink RX6 65 "LoomDesk" "power" "Z", .fieldLink RX6 19 "LoomDesk" "shaft" "LLoomDesk$Shaft;", .fieldLink RX6 40 "LoomDesk" "pattern" "LLoomDesk$Pattern;", .fieldLink RX6 44 "LoomDesk" "place" "J", .methodLink RX6 78 yX4_stands, .instanceMethod yX4_stands, .selects RX4 yX4_stands yX4_stands, .initialized RX4, .code yX4_stands cX4_stands 1 (some .boolean), .fieldLink RX4 15 "LoomDesk$Shaft" "mode" "I", .methodLink RX6 145 yX1_has, .instanceMethod yX1_has, .selects RX1 yX1_has yX1_has, .initialized RX1, .code yX1_has cX1_has 3 (some .boolean), .fieldLink RX1 37 "LoomDesk$Pattern" "picks" "J"] ++ wsX60 ++ wsX40 ++ wsX10)
def wsX6_speed : List Cond := .code yX6_speed cX6_speed 2 (some .boolean) :: ([.fieldLink RX6 19 "LoomDesk" "shaft" "LLoomDesk$Shaft;", .constantFloat RX6 149 (1114636288), .constantFloat RX6 150 (1133903872), .constantFloat RX6 151 (1090519040), .methodLink RX6 78 yX4_stands, .instanceMethod yX4_stands, .selects RX4 yX4_stands yX4_stands, .initialized RX4, .code yX4_stands cX4_stands 1 (some .boolean), .fieldLink RX4 15 "LoomDesk$Shaft" "mode" "I"] ++ wsX60 ++ wsX40)
def wsX6_cut_r1 : List Cond := [Cond.fieldLink RX6 65 "LoomDesk" "power" "Z", Cond.fieldLink RX6 19 "LoomDesk" "shaft" "LLoomDesk$Shaft;", Cond.fieldLink RX6 55 "LoomDesk" "pick" "I", Cond.fieldLink RX6 61 "LoomDesk" "breakTold" "Z", Cond.fieldLink RX6 48 "LoomDesk" "shed" "I", Cond.fieldLink RX6 52 "LoomDesk" "carrier" "I", Cond.fieldLink RX6 26 "LoomDesk" "woven" "LLoomDesk$Cloth;", Cond.fieldLink RX6 33 "LoomDesk" "records" "LLoomDesk$Records;", Cond.methodLink RX6 155 yX4_stand, Cond.instanceMethod yX4_stand, Cond.selects RX4 yX4_stand yX4_stand, Cond.initialized RX4, Cond.code yX4_stand cX4_stand 1 none, Cond.fieldLink RX4 15 "LoomDesk$Shaft" "mode" "I", Cond.fieldLink RX4 18 "LoomDesk$Shaft" "toGo" "I", Cond.methodLink RX6 158 yX0_forget, Cond.instanceMethod yX0_forget, Cond.selects RX0 yX0_forget yX0_forget, Cond.initialized RX0, Cond.code yX0_forget cX0_forget 1 none, Cond.fieldLink RX0 25 "LoomDesk$Cloth" "kept" "I", Cond.methodLink RX6 161 yX3_spoilLast, Cond.instanceMethod yX3_spoilLast, Cond.selects RX3 yX3_spoilLast yX3_spoilLast]
def wsX6_cut_r2 : List Cond := [Cond.initialized RX3, Cond.code yX3_spoilLast cX3_spoilLast 1 none, Cond.fieldLink RX3 9 "LoomDesk$Records" "marks" "[I", Cond.fieldLink RX3 19 "LoomDesk$Records" "last" "I"]
def wsX6_cut : List Cond := .code yX6_cut cX6_cut 2 (some .boolean) :: ((wsX6_cut_r1 ++ wsX6_cut_r2) ++ wsX60 ++ wsX40 ++ wsX00 ++ wsX30)
def wsX6_recall_r1 : List Cond := [Cond.fieldLink RX6 33 "LoomDesk" "records" "LLoomDesk$Records;", Cond.fieldLink RX6 19 "LoomDesk" "shaft" "LLoomDesk$Shaft;", Cond.fieldLink RX6 40 "LoomDesk" "pattern" "LLoomDesk$Pattern;", Cond.methodLink RX6 258 yX3_newest, Cond.instanceMethod yX3_newest, Cond.selects RX3 yX3_newest yX3_newest, Cond.initialized RX3, Cond.code yX3_newest cX3_newest 1 (some .int), Cond.fieldLink RX3 9 "LoomDesk$Records" "marks" "[I", Cond.fieldLink RX3 19 "LoomDesk$Records" "last" "I", Cond.methodLink RX3 23 yX3_other, Cond.instanceMethod yX3_other, Cond.selects RX3 yX3_other yX3_other, Cond.code yX3_other cX3_other 1 (some .int), Cond.methodLink RX6 261 yX3_placeOf, Cond.instanceMethod yX3_placeOf, Cond.selects RX3 yX3_placeOf yX3_placeOf, Cond.code yX3_placeOf cX3_placeOf 2 (some .long), Cond.fieldLink RX3 15 "LoomDesk$Records" "places" "[J", Cond.methodLink RX6 265 yX3_markOf, Cond.instanceMethod yX3_markOf, Cond.selects RX3 yX3_markOf yX3_markOf, Cond.code yX3_markOf cX3_markOf 2 (some .int), Cond.methodLink RX6 239 yX1_behind]
def wsX6_recall_r2 : List Cond := [Cond.instanceMethod yX1_behind, Cond.selects RX1 yX1_behind yX1_behind, Cond.initialized RX1, Cond.code yX1_behind cX1_behind 3 (some .long), Cond.methodLink RX1 50 yX1_has, Cond.instanceMethod yX1_has, Cond.selects RX1 yX1_has yX1_has, Cond.code yX1_has cX1_has 3 (some .boolean), Cond.fieldLink RX1 37 "LoomDesk$Pattern" "picks" "J"]
def wsX6_recall : List Cond := .code yX6_recall cX6_recall 5 (some .long) :: ((wsX6_recall_r1 ++ wsX6_recall_r2) ++ wsX60 ++ wsX40 ++ wsX30 ++ wsX10)
def wsX6_on_r1 : List Cond := [Cond.fieldLink RX6 65 "LoomDesk" "power" "Z", Cond.fieldLink RX6 44 "LoomDesk" "place" "J", Cond.fieldLink RX6 19 "LoomDesk" "shaft" "LLoomDesk$Shaft;", Cond.fieldLink RX6 55 "LoomDesk" "pick" "I", Cond.methodLink RX6 164 yX6_recall, Cond.instanceMethod yX6_recall, Cond.selects RX6 yX6_recall yX6_recall, Cond.initialized RX6, Cond.code yX6_recall cX6_recall 5 (some .long), Cond.fieldLink RX6 33 "LoomDesk" "records" "LLoomDesk$Records;", Cond.fieldLink RX6 40 "LoomDesk" "pattern" "LLoomDesk$Pattern;", Cond.methodLink RX6 258 yX3_newest, Cond.instanceMethod yX3_newest, Cond.selects RX3 yX3_newest yX3_newest, Cond.initialized RX3, Cond.code yX3_newest cX3_newest 1 (some .int), Cond.fieldLink RX3 9 "LoomDesk$Records" "marks" "[I", Cond.fieldLink RX3 19 "LoomDesk$Records" "last" "I", Cond.methodLink RX3 23 yX3_other, Cond.instanceMethod yX3_other, Cond.selects RX3 yX3_other yX3_other, Cond.code yX3_other cX3_other 1 (some .int), Cond.methodLink RX6 261 yX3_placeOf, Cond.instanceMethod yX3_placeOf]
def wsX6_on_r2 : List Cond := [Cond.selects RX3 yX3_placeOf yX3_placeOf, Cond.code yX3_placeOf cX3_placeOf 2 (some .long), Cond.fieldLink RX3 15 "LoomDesk$Records" "places" "[J", Cond.methodLink RX6 265 yX3_markOf, Cond.instanceMethod yX3_markOf, Cond.selects RX3 yX3_markOf yX3_markOf, Cond.code yX3_markOf cX3_markOf 2 (some .int), Cond.methodLink RX6 239 yX1_behind, Cond.instanceMethod yX1_behind, Cond.selects RX1 yX1_behind yX1_behind, Cond.initialized RX1, Cond.code yX1_behind cX1_behind 3 (some .long), Cond.methodLink RX1 50 yX1_has, Cond.instanceMethod yX1_has, Cond.selects RX1 yX1_has yX1_has, Cond.code yX1_has cX1_has 3 (some .boolean), Cond.fieldLink RX1 37 "LoomDesk$Pattern" "picks" "J"]
def wsX6_on : List Cond := .code yX6_on cX6_on 1 (some .boolean) :: ((wsX6_on_r1 ++ wsX6_on_r2) ++ wsX60 ++ wsX40 ++ wsX30 ++ wsX10)
def wsX6_angle : List Cond := .code yX6_angle cX6_angle 1 (some .double) :: ([.fieldLink RX6 19 "LoomDesk" "shaft" "LLoomDesk$Shaft;", .methodLink RX6 128 yX6_degrees, .static yX6_degrees, .initialized RX6, .code yX6_degrees cX6_degrees 1 (some .double), .constantDouble RX6 211 (4625196817309499392)] ++ wsX60 ++ wsX40)
def wsX6_left : List Cond := .code yX6_left cX6_left 1 (some .float) :: ([.fieldLink RX6 19 "LoomDesk" "shaft" "LLoomDesk$Shaft;", .constantFloat RX6 171 (1098907648)] ++ wsX60 ++ wsX40)
def wsX6_roll : List Cond := .code yX6_roll cX6_roll 5 (some .double) :: ([.constantDouble RX6 172 (13884597651183239168), .constantDouble RX6 174 (4661225614328463360), .fieldLink RX6 26 "LoomDesk" "woven" "LLoomDesk$Cloth;", .constantDouble RX6 179 (4620693217682128896), .constantLong RX6 181 (11520), .constantDouble RX6 183 (4629700416936869888)] ++ wsX60 ++ wsX00)
def wsX6_letOff : List Cond := .code yX6_letOff cX6_letOff 4 (some .int) :: ([.constantFloat RX6 185 (3463342888), .constantFloat RX6 186 (1315859240), .constantFloat RX6 151 (1090519040), .constantLong RX6 187 (100)])
def wsJ9_floorDiv_f86c9 : List Cond := .code yJ9_floorDiv_f86c9 cJ9_floorDiv_f86c9 6 (some .long) :: ([])
def wsX6_state : List Cond := .code yX6_state cX6_state 2 (some .int) :: ([.fieldLink RX6 19 "LoomDesk" "shaft" "LLoomDesk$Shaft;", .fieldLink RX6 48 "LoomDesk" "shed" "I", .fieldLink RX6 52 "LoomDesk" "carrier" "I", .fieldLink RX6 55 "LoomDesk" "pick" "I", .fieldLink RX6 58 "LoomDesk" "missed" "I", .fieldLink RX6 26 "LoomDesk" "woven" "LLoomDesk$Cloth;", .constantLong RX6 192 (4), .fieldLink RX6 65 "LoomDesk" "power" "Z", .methodLink RX6 194 yJ9_floorDiv_f86c9, .static yJ9_floorDiv_f86c9, .initialized RJ9, .code yJ9_floorDiv_f86c9 cJ9_floorDiv_f86c9 6 (some .long)] ++ wsX60 ++ wsX40 ++ wsX00)
def wsX6_count : List Cond := .code yX6_count cX6_count 2 (some .long) :: ([.fieldLink RX6 44 "LoomDesk" "place" "J", .fieldLink RX6 26 "LoomDesk" "woven" "LLoomDesk$Cloth;", .fieldLink RX6 19 "LoomDesk" "shaft" "LLoomDesk$Shaft;", .constantLong RX6 206 (-1)] ++ wsX60 ++ wsX00 ++ wsX40)
def wsX6_cloth : List Cond := .code yX6_cloth cX6_cloth 3 (some .int) :: ([.fieldLink RX6 26 "LoomDesk" "woven" "LLoomDesk$Cloth;", .methodLink RX6 208 yX0_tell, .instanceMethod yX0_tell, .selects RX0 yX0_tell yX0_tell, .initialized RX0, .code yX0_tell cX0_tell 4 (some .int), .fieldLink RX0 25 "LoomDesk$Cloth" "kept" "I", .fieldLink RX0 11 "LoomDesk$Cloth" "sheds" "[I", .fieldLink RX0 15 "LoomDesk$Cloth" "carriers" "[I", .fieldLink RX0 18 "LoomDesk$Cloth" "densities" "[I", .methodLink RX0 48 yX0_slotOf, .instanceMethod yX0_slotOf, .selects RX0 yX0_slotOf yX0_slotOf, .code yX0_slotOf cX0_slotOf 2 (some .int), .fieldLink RX0 21 "LoomDesk$Cloth" "next" "I", .methodLink RX0 35 yJ9_floorMod_7cf53, .static yJ9_floorMod_7cf53, .initialized RJ9, .code yJ9_floorMod_7cf53 cJ9_floorMod_7cf53 3 (some .int)] ++ wsX60 ++ wsX00)
def wsX7_init_r1 : List Cond := [Cond.methodLink RX7 1 objectInit, Cond.instanceMethod objectInit, Cond.code objectInit ⟨#[0xb1]⟩ 1 none, Cond.arrayClass .int, Cond.fieldLink RX7 7 "LoomDeskModel" "tape" "[I", Cond.fieldLink RX7 13 "LoomDeskModel" "kind" "[I", Cond.fieldLink RX7 16 "LoomDeskModel" "value" "[I", Cond.fieldLink RX7 19 "LoomDeskModel" "end" "[I", Cond.fieldLink RX7 22 "LoomDeskModel" "carrierOut" "[I", Cond.fieldLink RX7 25 "LoomDeskModel" "densityOut" "[I", Cond.arrayClass .long, Cond.fieldLink RX7 28 "LoomDeskModel" "picks" "[J", Cond.fieldLink RX7 32 "LoomDeskModel" "newKind" "[I", Cond.fieldLink RX7 35 "LoomDeskModel" "newValue" "[I", Cond.fieldLink RX7 38 "LoomDeskModel" "newEnd" "[I", Cond.fieldLink RX7 41 "LoomDeskModel" "open" "[I", Cond.fieldLink RX7 44 "LoomDeskModel" "before" "[I", Cond.fieldLink RX7 47 "LoomDeskModel" "power" "Z", Cond.fieldLink RX7 51 "LoomDeskModel" "speed" "I", Cond.fieldLink RX7 55 "LoomDeskModel" "clothShed" "[I", Cond.fieldLink RX7 58 "LoomDeskModel" "clothCarrier" "[I", Cond.fieldLink RX7 61 "LoomDeskModel" "clothDensity" "[I", Cond.arrayClass .boolean, Cond.fieldLink RX7 64 "LoomDeskModel" "there" "[Z"]
def wsX7_init_r2 : List Cond := [Cond.fieldLink RX7 68 "LoomDeskModel" "upper" "[Z", Cond.fieldLink RX7 71 "LoomDeskModel" "recorded" "[J"]
def wsX7_init : List Cond := .code yX7_init cX7_init 1 none :: ((wsX7_init_r1 ++ wsX7_init_r2) ++ wsX70)
def wsX7_thrown : List Cond := .code yX7_thrown cX7_thrown 1 (some .int) :: ([.fieldLink RX7 74 "LoomDeskModel" "thrown" "I"] ++ wsX70)
def wsX7_type : List Cond := .code yX7_type cX7_type 7 (some .boolean) :: ([.fieldLink RX7 74 "LoomDeskModel" "thrown" "I", .fieldLink RX7 77 "LoomDeskModel" "typed" "I", .constantLong RX7 80 (255), .constantLong RX7 82 (32), .constantLong RX7 84 (126), .fieldLink RX7 7 "LoomDeskModel" "tape" "[I"] ++ wsX70)
def wsX7_see : List Cond := .code yX7_see cX7_see 1 (some .int) :: ([.fieldLink RX7 86 "LoomDeskModel" "at" "I", .fieldLink RX7 77 "LoomDeskModel" "typed" "I", .fieldLink RX7 7 "LoomDeskModel" "tape" "[I"] ++ wsX70)
def wsX7_skip : List Cond := .code yX7_skip cX7_skip 1 none :: ([.fieldLink RX7 86 "LoomDeskModel" "at" "I", .methodLink RX7 89 yX7_see, .instanceMethod yX7_see, .selects RX7 yX7_see yX7_see, .initialized RX7, .code yX7_see cX7_see 1 (some .int), .fieldLink RX7 77 "LoomDeskModel" "typed" "I", .fieldLink RX7 7 "LoomDeskModel" "tape" "[I"] ++ wsX70)
def wsX7_digit : List Cond := .code yX7_digit cX7_digit 1 (some .int) :: ([])
def wsX7_item : List Cond := .code yX7_item cX7_item 3 none :: ([.fieldLink RX7 32 "LoomDeskModel" "newKind" "[I", .fieldLink RX7 93 "LoomDeskModel" "newItems" "I", .fieldLink RX7 35 "LoomDeskModel" "newValue" "[I", .fieldLink RX7 38 "LoomDeskModel" "newEnd" "[I"] ++ wsX70)
def wsX7_isDensity : List Cond := .code yX7_isDensity cX7_isDensity 1 (some .boolean) :: ([])
def wsX7_readsWord : List Cond := .code yX7_readsWord cX7_readsWord 6 (some .boolean) :: ([.fieldLink RX7 86 "LoomDeskModel" "at" "I", .fieldLink RX7 104 "LoomDeskModel" "seen" "I", .methodLink RX7 89 yX7_see, .instanceMethod yX7_see, .selects RX7 yX7_see yX7_see, .initialized RX7, .code yX7_see cX7_see 1 (some .int), .fieldLink RX7 77 "LoomDeskModel" "typed" "I", .fieldLink RX7 7 "LoomDeskModel" "tape" "[I", .methodLink RX7 96 yX7_digit, .static yX7_digit, .code yX7_digit cX7_digit 1 (some .int), .methodLink RX7 100 yX7_isDensity, .static yX7_isDensity, .code yX7_isDensity cX7_isDensity 1 (some .boolean), .methodLink RX7 107 yX7_item, .instanceMethod yX7_item, .selects RX7 yX7_item yX7_item, .code yX7_item cX7_item 3 none, .fieldLink RX7 32 "LoomDeskModel" "newKind" "[I", .fieldLink RX7 93 "LoomDeskModel" "newItems" "I", .fieldLink RX7 35 "LoomDeskModel" "newValue" "[I", .fieldLink RX7 38 "LoomDeskModel" "newEnd" "[I"] ++ wsX70)
def wsX7_readsOpening_r1 : List Cond := [Cond.fieldLink RX7 86 "LoomDeskModel" "at" "I", Cond.fieldLink RX7 114 "LoomDeskModel" "opens" "I", Cond.fieldLink RX7 41 "LoomDeskModel" "open" "[I", Cond.fieldLink RX7 93 "LoomDeskModel" "newItems" "I", Cond.fieldLink RX7 44 "LoomDeskModel" "before" "[I", Cond.fieldLink RX7 104 "LoomDeskModel" "seen" "I", Cond.fieldLink RX7 117 "LoomDeskModel" "wants" "Z", Cond.methodLink RX7 89 yX7_see, Cond.instanceMethod yX7_see, Cond.selects RX7 yX7_see yX7_see, Cond.initialized RX7, Cond.code yX7_see cX7_see 1 (some .int), Cond.fieldLink RX7 77 "LoomDeskModel" "typed" "I", Cond.fieldLink RX7 7 "LoomDeskModel" "tape" "[I", Cond.methodLink RX7 96 yX7_digit, Cond.static yX7_digit, Cond.code yX7_digit cX7_digit 1 (some .int), Cond.methodLink RX7 111 yX7_skip, Cond.instanceMethod yX7_skip, Cond.selects RX7 yX7_skip yX7_skip, Cond.code yX7_skip cX7_skip 1 none, Cond.methodLink RX7 107 yX7_item, Cond.instanceMethod yX7_item, Cond.selects RX7 yX7_item yX7_item]
def wsX7_readsOpening_r2 : List Cond := [Cond.code yX7_item cX7_item 3 none, Cond.fieldLink RX7 32 "LoomDeskModel" "newKind" "[I", Cond.fieldLink RX7 35 "LoomDeskModel" "newValue" "[I", Cond.fieldLink RX7 38 "LoomDeskModel" "newEnd" "[I"]
def wsX7_readsOpening : List Cond := .code yX7_readsOpening cX7_readsOpening 4 (some .boolean) :: ((wsX7_readsOpening_r1 ++ wsX7_readsOpening_r2) ++ wsX70)
def wsX7_reads_r1 : List Cond := [Cond.fieldLink RX7 86 "LoomDeskModel" "at" "I", Cond.fieldLink RX7 93 "LoomDeskModel" "newItems" "I", Cond.fieldLink RX7 114 "LoomDeskModel" "opens" "I", Cond.fieldLink RX7 104 "LoomDeskModel" "seen" "I", Cond.fieldLink RX7 117 "LoomDeskModel" "wants" "Z", Cond.fieldLink RX7 77 "LoomDeskModel" "typed" "I", Cond.fieldLink RX7 44 "LoomDeskModel" "before" "[I", Cond.fieldLink RX7 38 "LoomDeskModel" "newEnd" "[I", Cond.fieldLink RX7 41 "LoomDeskModel" "open" "[I", Cond.methodLink RX7 111 yX7_skip, Cond.instanceMethod yX7_skip, Cond.selects RX7 yX7_skip yX7_skip, Cond.initialized RX7, Cond.code yX7_skip cX7_skip 1 none, Cond.methodLink RX7 89 yX7_see, Cond.instanceMethod yX7_see, Cond.selects RX7 yX7_see yX7_see, Cond.code yX7_see cX7_see 1 (some .int), Cond.fieldLink RX7 7 "LoomDeskModel" "tape" "[I", Cond.methodLink RX7 120 yX7_readsWord, Cond.instanceMethod yX7_readsWord, Cond.selects RX7 yX7_readsWord yX7_readsWord, Cond.code yX7_readsWord cX7_readsWord 6 (some .boolean), Cond.methodLink RX7 96 yX7_digit]
def wsX7_reads_r2 : List Cond := [Cond.static yX7_digit, Cond.code yX7_digit cX7_digit 1 (some .int), Cond.methodLink RX7 100 yX7_isDensity, Cond.static yX7_isDensity, Cond.code yX7_isDensity cX7_isDensity 1 (some .boolean), Cond.methodLink RX7 107 yX7_item, Cond.instanceMethod yX7_item, Cond.selects RX7 yX7_item yX7_item, Cond.code yX7_item cX7_item 3 none, Cond.fieldLink RX7 32 "LoomDeskModel" "newKind" "[I", Cond.fieldLink RX7 35 "LoomDeskModel" "newValue" "[I", Cond.methodLink RX7 123 yX7_readsOpening, Cond.instanceMethod yX7_readsOpening, Cond.selects RX7 yX7_readsOpening yX7_readsOpening, Cond.code yX7_readsOpening cX7_readsOpening 4 (some .boolean)]
def wsX7_reads : List Cond := .code yX7_reads cX7_reads 2 (some .boolean) :: ((wsX7_reads_r1 ++ wsX7_reads_r2) ++ wsX70)
def wsX7_sum : List Cond := .code yX7_sum cX7_sum 4 (some .long) :: ([.constantLong RX7 126 (1099511627776)])
def wsX7_times : List Cond := .code yX7_times cX7_times 4 (some .long) :: ([.fieldLink RX7 13 "LoomDeskModel" "kind" "[I", .fieldLink RX7 16 "LoomDeskModel" "value" "[I", .constantLong RX7 128 (2), .fieldLink RX7 28 "LoomDeskModel" "picks" "[J", .constantLong RX7 126 (1099511627776)] ++ wsX70)
def wsX7_isBracket : List Cond := .code yX7_isBracket cX7_isBracket 2 (some .boolean) :: ([.fieldLink RX7 13 "LoomDeskModel" "kind" "[I"] ++ wsX70)
def wsX7_reckon : List Cond := .code yX7_reckon cX7_reckon 3 none :: ([.fieldLink RX7 130 "LoomDeskModel" "length" "J", .fieldLink RX7 134 "LoomDeskModel" "items" "I", .fieldLink RX7 28 "LoomDeskModel" "picks" "[J", .fieldLink RX7 22 "LoomDeskModel" "carrierOut" "[I", .fieldLink RX7 13 "LoomDeskModel" "kind" "[I", .fieldLink RX7 16 "LoomDeskModel" "value" "[I", .fieldLink RX7 25 "LoomDeskModel" "densityOut" "[I", .fieldLink RX7 19 "LoomDeskModel" "end" "[I", .methodLink RX7 137 yX7_isBracket, .instanceMethod yX7_isBracket, .selects RX7 yX7_isBracket yX7_isBracket, .initialized RX7, .code yX7_isBracket cX7_isBracket 2 (some .boolean), .methodLink RX7 140 yX7_times, .instanceMethod yX7_times, .selects RX7 yX7_times yX7_times, .code yX7_times cX7_times 4 (some .long), .constantLong RX7 128 (2), .constantLong RX7 126 (1099511627776), .methodLink RX7 144 yX7_sum, .static yX7_sum, .code yX7_sum cX7_sum 4 (some .long)] ++ wsX70)
def wsX7_swap_r1 : List Cond := [Cond.fieldLink RX7 134 "LoomDeskModel" "items" "I", Cond.fieldLink RX7 93 "LoomDeskModel" "newItems" "I", Cond.fieldLink RX7 13 "LoomDeskModel" "kind" "[I", Cond.fieldLink RX7 16 "LoomDeskModel" "value" "[I", Cond.fieldLink RX7 19 "LoomDeskModel" "end" "[I", Cond.fieldLink RX7 32 "LoomDeskModel" "newKind" "[I", Cond.fieldLink RX7 35 "LoomDeskModel" "newValue" "[I", Cond.fieldLink RX7 38 "LoomDeskModel" "newEnd" "[I", Cond.methodLink RX7 148 yX7_reckon, Cond.instanceMethod yX7_reckon, Cond.selects RX7 yX7_reckon yX7_reckon, Cond.initialized RX7, Cond.code yX7_reckon cX7_reckon 3 none, Cond.fieldLink RX7 130 "LoomDeskModel" "length" "J", Cond.fieldLink RX7 28 "LoomDeskModel" "picks" "[J", Cond.fieldLink RX7 22 "LoomDeskModel" "carrierOut" "[I", Cond.fieldLink RX7 25 "LoomDeskModel" "densityOut" "[I", Cond.methodLink RX7 137 yX7_isBracket, Cond.instanceMethod yX7_isBracket, Cond.selects RX7 yX7_isBracket yX7_isBracket, Cond.code yX7_isBracket cX7_isBracket 2 (some .boolean), Cond.methodLink RX7 140 yX7_times, Cond.instanceMethod yX7_times, Cond.selects RX7 yX7_times yX7_times]
def wsX7_swap_r2 : List Cond := [Cond.code yX7_times cX7_times 4 (some .long), Cond.constantLong RX7 128 (2), Cond.constantLong RX7 126 (1099511627776), Cond.methodLink RX7 144 yX7_sum, Cond.static yX7_sum, Cond.code yX7_sum cX7_sum 4 (some .long)]
def wsX7_swap : List Cond := .code yX7_swap cX7_swap 6 none :: ((wsX7_swap_r1 ++ wsX7_swap_r2) ++ wsX70)
def wsX7_compile_r1 : List Cond := [Cond.fieldLink RX7 74 "LoomDeskModel" "thrown" "I", Cond.fieldLink RX7 151 "LoomDeskModel" "mode" "I", Cond.fieldLink RX7 47 "LoomDeskModel" "power" "Z", Cond.fieldLink RX7 86 "LoomDeskModel" "at" "I", Cond.fieldLink RX7 130 "LoomDeskModel" "length" "J", Cond.constantLong RX7 161 (2000000000), Cond.fieldLink RX7 77 "LoomDeskModel" "typed" "I", Cond.fieldLink RX7 163 "LoomDeskModel" "place" "J", Cond.fieldLink RX7 64 "LoomDeskModel" "there" "[Z", Cond.methodLink RX7 154 yX7_reads, Cond.instanceMethod yX7_reads, Cond.selects RX7 yX7_reads yX7_reads, Cond.initialized RX7, Cond.code yX7_reads cX7_reads 2 (some .boolean), Cond.fieldLink RX7 93 "LoomDeskModel" "newItems" "I", Cond.fieldLink RX7 114 "LoomDeskModel" "opens" "I", Cond.fieldLink RX7 104 "LoomDeskModel" "seen" "I", Cond.fieldLink RX7 117 "LoomDeskModel" "wants" "Z", Cond.fieldLink RX7 44 "LoomDeskModel" "before" "[I", Cond.fieldLink RX7 38 "LoomDeskModel" "newEnd" "[I", Cond.fieldLink RX7 41 "LoomDeskModel" "open" "[I", Cond.methodLink RX7 111 yX7_skip, Cond.instanceMethod yX7_skip, Cond.selects RX7 yX7_skip yX7_skip]
def wsX7_compile_r2 : List Cond := [Cond.code yX7_skip cX7_skip 1 none, Cond.methodLink RX7 89 yX7_see, Cond.instanceMethod yX7_see, Cond.selects RX7 yX7_see yX7_see, Cond.code yX7_see cX7_see 1 (some .int), Cond.fieldLink RX7 7 "LoomDeskModel" "tape" "[I", Cond.methodLink RX7 120 yX7_readsWord, Cond.instanceMethod yX7_readsWord, Cond.selects RX7 yX7_readsWord yX7_readsWord, Cond.code yX7_readsWord cX7_readsWord 6 (some .boolean), Cond.methodLink RX7 96 yX7_digit, Cond.static yX7_digit, Cond.code yX7_digit cX7_digit 1 (some .int), Cond.methodLink RX7 100 yX7_isDensity, Cond.static yX7_isDensity, Cond.code yX7_isDensity cX7_isDensity 1 (some .boolean), Cond.methodLink RX7 107 yX7_item, Cond.instanceMethod yX7_item, Cond.selects RX7 yX7_item yX7_item, Cond.code yX7_item cX7_item 3 none, Cond.fieldLink RX7 32 "LoomDeskModel" "newKind" "[I", Cond.fieldLink RX7 35 "LoomDeskModel" "newValue" "[I", Cond.methodLink RX7 123 yX7_readsOpening, Cond.instanceMethod yX7_readsOpening]
def wsX7_compile_r3 : List Cond := [Cond.selects RX7 yX7_readsOpening yX7_readsOpening, Cond.code yX7_readsOpening cX7_readsOpening 4 (some .boolean), Cond.methodLink RX7 158 yX7_swap, Cond.instanceMethod yX7_swap, Cond.selects RX7 yX7_swap yX7_swap, Cond.code yX7_swap cX7_swap 6 none, Cond.fieldLink RX7 134 "LoomDeskModel" "items" "I", Cond.fieldLink RX7 13 "LoomDeskModel" "kind" "[I", Cond.fieldLink RX7 16 "LoomDeskModel" "value" "[I", Cond.fieldLink RX7 19 "LoomDeskModel" "end" "[I", Cond.methodLink RX7 148 yX7_reckon, Cond.instanceMethod yX7_reckon, Cond.selects RX7 yX7_reckon yX7_reckon, Cond.code yX7_reckon cX7_reckon 3 none, Cond.fieldLink RX7 28 "LoomDeskModel" "picks" "[J", Cond.fieldLink RX7 22 "LoomDeskModel" "carrierOut" "[I", Cond.fieldLink RX7 25 "LoomDeskModel" "densityOut" "[I", Cond.methodLink RX7 137 yX7_isBracket, Cond.instanceMethod yX7_isBracket, Cond.selects RX7 yX7_isBracket yX7_isBracket, Cond.code yX7_isBracket cX7_isBracket 2 (some .boolean), Cond.methodLink RX7 140 yX7_times, Cond.instanceMethod yX7_times, Cond.selects RX7 yX7_times yX7_times]
def wsX7_compile_r4 : List Cond := [Cond.code yX7_times cX7_times 4 (some .long), Cond.constantLong RX7 128 (2), Cond.constantLong RX7 126 (1099511627776), Cond.methodLink RX7 144 yX7_sum, Cond.static yX7_sum, Cond.code yX7_sum cX7_sum 4 (some .long)]
def wsX7_compile : List Cond := .code yX7_compile cX7_compile 3 (some .int) :: ((wsX7_compile_r1 ++ (wsX7_compile_r2 ++ (wsX7_compile_r3 ++ wsX7_compile_r4))) ++ wsX70)
def wsX7_length : List Cond := .code yX7_length cX7_length 1 (some .long) :: ([.fieldLink RX7 74 "LoomDeskModel" "thrown" "I", .fieldLink RX7 130 "LoomDeskModel" "length" "J"] ++ wsX70)
def wsX7_look : List Cond := .code yX7_look cX7_look 11 (some .int) :: ([.fieldLink RX7 13 "LoomDeskModel" "kind" "[I", .fieldLink RX7 28 "LoomDeskModel" "picks" "[J", .fieldLink RX7 22 "LoomDeskModel" "carrierOut" "[I", .fieldLink RX7 25 "LoomDeskModel" "densityOut" "[I", .fieldLink RX7 19 "LoomDeskModel" "end" "[I", .constantLong RX7 128 (2), .fieldLink RX7 16 "LoomDeskModel" "value" "[I", .methodLink RX7 137 yX7_isBracket, .instanceMethod yX7_isBracket, .selects RX7 yX7_isBracket yX7_isBracket, .initialized RX7, .code yX7_isBracket cX7_isBracket 2 (some .boolean), .methodLink RX7 140 yX7_times, .instanceMethod yX7_times, .selects RX7 yX7_times yX7_times, .code yX7_times cX7_times 4 (some .long), .constantLong RX7 126 (1099511627776)] ++ wsX70)
def wsX7_design : List Cond := .code yX7_design cX7_design 4 (some .int) :: ([.fieldLink RX7 74 "LoomDeskModel" "thrown" "I", .fieldLink RX7 130 "LoomDeskModel" "length" "J", .methodLink RX7 166 yX7_look, .instanceMethod yX7_look, .selects RX7 yX7_look yX7_look, .initialized RX7, .code yX7_look cX7_look 11 (some .int), .fieldLink RX7 13 "LoomDeskModel" "kind" "[I", .fieldLink RX7 28 "LoomDeskModel" "picks" "[J", .fieldLink RX7 22 "LoomDeskModel" "carrierOut" "[I", .fieldLink RX7 25 "LoomDeskModel" "densityOut" "[I", .fieldLink RX7 19 "LoomDeskModel" "end" "[I", .constantLong RX7 128 (2), .fieldLink RX7 16 "LoomDeskModel" "value" "[I", .methodLink RX7 137 yX7_isBracket, .instanceMethod yX7_isBracket, .selects RX7 yX7_isBracket yX7_isBracket, .code yX7_isBracket cX7_isBracket 2 (some .boolean), .methodLink RX7 140 yX7_times, .instanceMethod yX7_times, .selects RX7 yX7_times yX7_times, .code yX7_times cX7_times 4 (some .long), .constantLong RX7 126 (1099511627776)] ++ wsX70)
def wsX7_start : List Cond := .code yX7_start cX7_start 1 (some .boolean) :: ([.fieldLink RX7 74 "LoomDeskModel" "thrown" "I", .fieldLink RX7 151 "LoomDeskModel" "mode" "I", .fieldLink RX7 130 "LoomDeskModel" "length" "J", .fieldLink RX7 47 "LoomDeskModel" "power" "Z"] ++ wsX70)
def wsX7_brakes : List Cond := .code yX7_brakes cX7_brakes 1 none :: ([.fieldLink RX7 151 "LoomDeskModel" "mode" "I", .fieldLink RX7 51 "LoomDeskModel" "speed" "I", .fieldLink RX7 170 "LoomDeskModel" "left" "I", .fieldLink RX7 173 "LoomDeskModel" "orders" "I"] ++ wsX70)
def wsX7_stop : List Cond := .code yX7_stop cX7_stop 1 (some .boolean) :: ([.fieldLink RX7 74 "LoomDeskModel" "thrown" "I", .fieldLink RX7 151 "LoomDeskModel" "mode" "I", .methodLink RX7 176 yX7_brakes, .instanceMethod yX7_brakes, .selects RX7 yX7_brakes yX7_brakes, .initialized RX7, .code yX7_brakes cX7_brakes 1 none, .fieldLink RX7 51 "LoomDeskModel" "speed" "I", .fieldLink RX7 170 "LoomDeskModel" "left" "I", .fieldLink RX7 173 "LoomDeskModel" "orders" "I"] ++ wsX70)
def wsX7_record : List Cond := .code yX7_record cX7_record 2 none :: ([.fieldLink RX7 179 "LoomDeskModel" "written" "I", .fieldLink RX7 64 "LoomDeskModel" "there" "[Z", .fieldLink RX7 68 "LoomDeskModel" "upper" "[Z", .fieldLink RX7 71 "LoomDeskModel" "recorded" "[J", .fieldLink RX7 163 "LoomDeskModel" "place" "J"] ++ wsX70)
def wsX7_beatUp_r1 : List Cond := [Cond.fieldLink RX7 163 "LoomDeskModel" "place" "J", Cond.fieldLink RX7 182 "LoomDeskModel" "cloths" "I", Cond.fieldLink RX7 55 "LoomDeskModel" "clothShed" "[I", Cond.fieldLink RX7 58 "LoomDeskModel" "clothCarrier" "[I", Cond.fieldLink RX7 61 "LoomDeskModel" "clothDensity" "[I", Cond.fieldLink RX7 185 "LoomDeskModel" "shed" "I", Cond.fieldLink RX7 188 "LoomDeskModel" "carrier" "I", Cond.fieldLink RX7 191 "LoomDeskModel" "quarters" "J", Cond.fieldLink RX7 194 "LoomDeskModel" "beaten" "J", Cond.fieldLink RX7 130 "LoomDeskModel" "length" "J", Cond.methodLink RX7 166 yX7_look, Cond.instanceMethod yX7_look, Cond.selects RX7 yX7_look yX7_look, Cond.initialized RX7, Cond.code yX7_look cX7_look 11 (some .int), Cond.fieldLink RX7 13 "LoomDeskModel" "kind" "[I", Cond.fieldLink RX7 28 "LoomDeskModel" "picks" "[J", Cond.fieldLink RX7 22 "LoomDeskModel" "carrierOut" "[I", Cond.fieldLink RX7 25 "LoomDeskModel" "densityOut" "[I", Cond.fieldLink RX7 19 "LoomDeskModel" "end" "[I", Cond.constantLong RX7 128 (2), Cond.fieldLink RX7 16 "LoomDeskModel" "value" "[I", Cond.methodLink RX7 137 yX7_isBracket, Cond.instanceMethod yX7_isBracket]
def wsX7_beatUp_r2 : List Cond := [Cond.selects RX7 yX7_isBracket yX7_isBracket, Cond.code yX7_isBracket cX7_isBracket 2 (some .boolean), Cond.methodLink RX7 140 yX7_times, Cond.instanceMethod yX7_times, Cond.selects RX7 yX7_times yX7_times, Cond.code yX7_times cX7_times 4 (some .long), Cond.constantLong RX7 126 (1099511627776)]
def wsX7_beatUp : List Cond := .code yX7_beatUp cX7_beatUp 3 none :: ((wsX7_beatUp_r1 ++ wsX7_beatUp_r2) ++ wsX70)
def wsX7_comes_r1 : List Cond := [Cond.fieldLink RX7 163 "LoomDeskModel" "place" "J", Cond.fieldLink RX7 188 "LoomDeskModel" "carrier" "I", Cond.fieldLink RX7 197 "LoomDeskModel" "broken" "Z", Cond.fieldLink RX7 200 "LoomDeskModel" "pick" "I", Cond.fieldLink RX7 185 "LoomDeskModel" "shed" "I", Cond.fieldLink RX7 210 "LoomDeskModel" "missed" "I", Cond.fieldLink RX7 213 "LoomDeskModel" "turns" "J", Cond.methodLink RX7 166 yX7_look, Cond.instanceMethod yX7_look, Cond.selects RX7 yX7_look yX7_look, Cond.initialized RX7, Cond.code yX7_look cX7_look 11 (some .int), Cond.fieldLink RX7 13 "LoomDeskModel" "kind" "[I", Cond.fieldLink RX7 28 "LoomDeskModel" "picks" "[J", Cond.fieldLink RX7 22 "LoomDeskModel" "carrierOut" "[I", Cond.fieldLink RX7 25 "LoomDeskModel" "densityOut" "[I", Cond.fieldLink RX7 19 "LoomDeskModel" "end" "[I", Cond.constantLong RX7 128 (2), Cond.fieldLink RX7 16 "LoomDeskModel" "value" "[I", Cond.methodLink RX7 137 yX7_isBracket, Cond.instanceMethod yX7_isBracket, Cond.selects RX7 yX7_isBracket yX7_isBracket, Cond.code yX7_isBracket cX7_isBracket 2 (some .boolean), Cond.methodLink RX7 140 yX7_times]
def wsX7_comes_r2 : List Cond := [Cond.instanceMethod yX7_times, Cond.selects RX7 yX7_times yX7_times, Cond.code yX7_times cX7_times 4 (some .long), Cond.constantLong RX7 126 (1099511627776), Cond.methodLink RX7 176 yX7_brakes, Cond.instanceMethod yX7_brakes, Cond.selects RX7 yX7_brakes yX7_brakes, Cond.code yX7_brakes cX7_brakes 1 none, Cond.fieldLink RX7 151 "LoomDeskModel" "mode" "I", Cond.fieldLink RX7 51 "LoomDeskModel" "speed" "I", Cond.fieldLink RX7 170 "LoomDeskModel" "left" "I", Cond.fieldLink RX7 173 "LoomDeskModel" "orders" "I", Cond.methodLink RX7 203 yX7_record, Cond.instanceMethod yX7_record, Cond.selects RX7 yX7_record yX7_record, Cond.code yX7_record cX7_record 2 none, Cond.fieldLink RX7 179 "LoomDeskModel" "written" "I", Cond.fieldLink RX7 64 "LoomDeskModel" "there" "[Z", Cond.fieldLink RX7 68 "LoomDeskModel" "upper" "[Z", Cond.fieldLink RX7 71 "LoomDeskModel" "recorded" "[J", Cond.methodLink RX7 207 yX7_beatUp, Cond.instanceMethod yX7_beatUp, Cond.selects RX7 yX7_beatUp yX7_beatUp, Cond.code yX7_beatUp cX7_beatUp 3 none]
def wsX7_comes_r3 : List Cond := [Cond.fieldLink RX7 182 "LoomDeskModel" "cloths" "I", Cond.fieldLink RX7 55 "LoomDeskModel" "clothShed" "[I", Cond.fieldLink RX7 58 "LoomDeskModel" "clothCarrier" "[I", Cond.fieldLink RX7 61 "LoomDeskModel" "clothDensity" "[I", Cond.fieldLink RX7 191 "LoomDeskModel" "quarters" "J", Cond.fieldLink RX7 194 "LoomDeskModel" "beaten" "J", Cond.fieldLink RX7 130 "LoomDeskModel" "length" "J"]
def wsX7_comes : List Cond := .code yX7_comes cX7_comes 2 none :: ((wsX7_comes_r1 ++ (wsX7_comes_r2 ++ wsX7_comes_r3)) ++ wsX70)
def wsX7_above : List Cond := .code yX7_above cX7_above 1 (some .int) :: ([])
def wsX7_turn_r1 : List Cond := [Cond.fieldLink RX7 151 "LoomDeskModel" "mode" "I", Cond.fieldLink RX7 47 "LoomDeskModel" "power" "Z", Cond.constantDouble RX7 216 (4660134898793709568), Cond.fieldLink RX7 74 "LoomDeskModel" "thrown" "I", Cond.constantDouble RX7 218 (4620693217682128896), Cond.fieldLink RX7 220 "LoomDeskModel" "angle" "I", Cond.fieldLink RX7 170 "LoomDeskModel" "left" "I", Cond.constantDouble RX7 230 (4625196817309499392), Cond.methodLink RX7 223 yX7_above, Cond.static yX7_above, Cond.initialized RX7, Cond.code yX7_above cX7_above 1 (some .int), Cond.methodLink RX7 226 yX7_comes, Cond.instanceMethod yX7_comes, Cond.selects RX7 yX7_comes yX7_comes, Cond.code yX7_comes cX7_comes 2 none, Cond.fieldLink RX7 163 "LoomDeskModel" "place" "J", Cond.fieldLink RX7 188 "LoomDeskModel" "carrier" "I", Cond.fieldLink RX7 197 "LoomDeskModel" "broken" "Z", Cond.fieldLink RX7 200 "LoomDeskModel" "pick" "I", Cond.fieldLink RX7 185 "LoomDeskModel" "shed" "I", Cond.fieldLink RX7 210 "LoomDeskModel" "missed" "I", Cond.fieldLink RX7 213 "LoomDeskModel" "turns" "J", Cond.methodLink RX7 166 yX7_look]
def wsX7_turn_r2 : List Cond := [Cond.instanceMethod yX7_look, Cond.selects RX7 yX7_look yX7_look, Cond.code yX7_look cX7_look 11 (some .int), Cond.fieldLink RX7 13 "LoomDeskModel" "kind" "[I", Cond.fieldLink RX7 28 "LoomDeskModel" "picks" "[J", Cond.fieldLink RX7 22 "LoomDeskModel" "carrierOut" "[I", Cond.fieldLink RX7 25 "LoomDeskModel" "densityOut" "[I", Cond.fieldLink RX7 19 "LoomDeskModel" "end" "[I", Cond.constantLong RX7 128 (2), Cond.fieldLink RX7 16 "LoomDeskModel" "value" "[I", Cond.methodLink RX7 137 yX7_isBracket, Cond.instanceMethod yX7_isBracket, Cond.selects RX7 yX7_isBracket yX7_isBracket, Cond.code yX7_isBracket cX7_isBracket 2 (some .boolean), Cond.methodLink RX7 140 yX7_times, Cond.instanceMethod yX7_times, Cond.selects RX7 yX7_times yX7_times, Cond.code yX7_times cX7_times 4 (some .long), Cond.constantLong RX7 126 (1099511627776), Cond.methodLink RX7 176 yX7_brakes, Cond.instanceMethod yX7_brakes, Cond.selects RX7 yX7_brakes yX7_brakes, Cond.code yX7_brakes cX7_brakes 1 none, Cond.fieldLink RX7 51 "LoomDeskModel" "speed" "I"]
def wsX7_turn_r3 : List Cond := [Cond.fieldLink RX7 173 "LoomDeskModel" "orders" "I", Cond.methodLink RX7 203 yX7_record, Cond.instanceMethod yX7_record, Cond.selects RX7 yX7_record yX7_record, Cond.code yX7_record cX7_record 2 none, Cond.fieldLink RX7 179 "LoomDeskModel" "written" "I", Cond.fieldLink RX7 64 "LoomDeskModel" "there" "[Z", Cond.fieldLink RX7 68 "LoomDeskModel" "upper" "[Z", Cond.fieldLink RX7 71 "LoomDeskModel" "recorded" "[J", Cond.methodLink RX7 207 yX7_beatUp, Cond.instanceMethod yX7_beatUp, Cond.selects RX7 yX7_beatUp yX7_beatUp, Cond.code yX7_beatUp cX7_beatUp 3 none, Cond.fieldLink RX7 182 "LoomDeskModel" "cloths" "I", Cond.fieldLink RX7 55 "LoomDeskModel" "clothShed" "[I", Cond.fieldLink RX7 58 "LoomDeskModel" "clothCarrier" "[I", Cond.fieldLink RX7 61 "LoomDeskModel" "clothDensity" "[I", Cond.fieldLink RX7 191 "LoomDeskModel" "quarters" "J", Cond.fieldLink RX7 194 "LoomDeskModel" "beaten" "J", Cond.fieldLink RX7 130 "LoomDeskModel" "length" "J"]
def wsX7_turn : List Cond := .code yX7_turn cX7_turn 10 (some .double) :: ((wsX7_turn_r1 ++ (wsX7_turn_r2 ++ wsX7_turn_r3)) ++ wsX70)
def wsX7_notAbove : List Cond := .code yX7_notAbove cX7_notAbove 1 (some .int) :: ([])
def wsX7_unpicks : List Cond := .code yX7_unpicks cX7_unpicks 1 none :: ([.fieldLink RX7 182 "LoomDeskModel" "cloths" "I", .fieldLink RX7 191 "LoomDeskModel" "quarters" "J", .fieldLink RX7 61 "LoomDeskModel" "clothDensity" "[I", .fieldLink RX7 194 "LoomDeskModel" "beaten" "J", .fieldLink RX7 163 "LoomDeskModel" "place" "J", .fieldLink RX7 130 "LoomDeskModel" "length" "J", .fieldLink RX7 200 "LoomDeskModel" "pick" "I", .fieldLink RX7 213 "LoomDeskModel" "turns" "J"] ++ wsX70)
def wsX7_goesBack : List Cond := .code yX7_goesBack cX7_goesBack 4 none :: ([.fieldLink RX7 220 "LoomDeskModel" "angle" "I", .fieldLink RX7 200 "LoomDeskModel" "pick" "I", .methodLink RX7 232 yX7_notAbove, .static yX7_notAbove, .initialized RX7, .code yX7_notAbove cX7_notAbove 1 (some .int), .methodLink RX7 235 yX7_unpicks, .instanceMethod yX7_unpicks, .selects RX7 yX7_unpicks yX7_unpicks, .code yX7_unpicks cX7_unpicks 1 none, .fieldLink RX7 182 "LoomDeskModel" "cloths" "I", .fieldLink RX7 191 "LoomDeskModel" "quarters" "J", .fieldLink RX7 61 "LoomDeskModel" "clothDensity" "[I", .fieldLink RX7 194 "LoomDeskModel" "beaten" "J", .fieldLink RX7 163 "LoomDeskModel" "place" "J", .fieldLink RX7 130 "LoomDeskModel" "length" "J", .fieldLink RX7 213 "LoomDeskModel" "turns" "J"] ++ wsX70)
def wsX7_back_r1 : List Cond := [Cond.fieldLink RX7 151 "LoomDeskModel" "mode" "I", Cond.fieldLink RX7 130 "LoomDeskModel" "length" "J", Cond.fieldLink RX7 47 "LoomDeskModel" "power" "Z", Cond.constantDouble RX7 238 (4652464705678344192), Cond.fieldLink RX7 74 "LoomDeskModel" "thrown" "I", Cond.constantDouble RX7 218 (4620693217682128896), Cond.fieldLink RX7 220 "LoomDeskModel" "angle" "I", Cond.constantDouble RX7 230 (4625196817309499392), Cond.methodLink RX7 240 yX7_goesBack, Cond.instanceMethod yX7_goesBack, Cond.selects RX7 yX7_goesBack yX7_goesBack, Cond.initialized RX7, Cond.code yX7_goesBack cX7_goesBack 4 none, Cond.fieldLink RX7 200 "LoomDeskModel" "pick" "I", Cond.methodLink RX7 232 yX7_notAbove, Cond.static yX7_notAbove, Cond.code yX7_notAbove cX7_notAbove 1 (some .int), Cond.methodLink RX7 235 yX7_unpicks, Cond.instanceMethod yX7_unpicks, Cond.selects RX7 yX7_unpicks yX7_unpicks, Cond.code yX7_unpicks cX7_unpicks 1 none, Cond.fieldLink RX7 182 "LoomDeskModel" "cloths" "I", Cond.fieldLink RX7 191 "LoomDeskModel" "quarters" "J", Cond.fieldLink RX7 61 "LoomDeskModel" "clothDensity" "[I"]
def wsX7_back_r2 : List Cond := [Cond.fieldLink RX7 194 "LoomDeskModel" "beaten" "J", Cond.fieldLink RX7 163 "LoomDeskModel" "place" "J", Cond.fieldLink RX7 213 "LoomDeskModel" "turns" "J"]
def wsX7_back : List Cond := .code yX7_back cX7_back 5 (some .double) :: ((wsX7_back_r1 ++ wsX7_back_r2) ++ wsX70)
def wsX7_findPick : List Cond := .code yX7_findPick cX7_findPick 1 (some .boolean) :: ([.fieldLink RX7 74 "LoomDeskModel" "thrown" "I", .fieldLink RX7 151 "LoomDeskModel" "mode" "I", .fieldLink RX7 200 "LoomDeskModel" "pick" "I", .fieldLink RX7 47 "LoomDeskModel" "power" "Z", .fieldLink RX7 220 "LoomDeskModel" "angle" "I", .methodLink RX7 240 yX7_goesBack, .instanceMethod yX7_goesBack, .selects RX7 yX7_goesBack yX7_goesBack, .initialized RX7, .code yX7_goesBack cX7_goesBack 4 none, .methodLink RX7 232 yX7_notAbove, .static yX7_notAbove, .code yX7_notAbove cX7_notAbove 1 (some .int), .methodLink RX7 235 yX7_unpicks, .instanceMethod yX7_unpicks, .selects RX7 yX7_unpicks yX7_unpicks, .code yX7_unpicks cX7_unpicks 1 none, .fieldLink RX7 182 "LoomDeskModel" "cloths" "I", .fieldLink RX7 191 "LoomDeskModel" "quarters" "J", .fieldLink RX7 61 "LoomDeskModel" "clothDensity" "[I", .fieldLink RX7 194 "LoomDeskModel" "beaten" "J", .fieldLink RX7 163 "LoomDeskModel" "place" "J", .fieldLink RX7 130 "LoomDeskModel" "length" "J", .fieldLink RX7 213 "LoomDeskModel" "turns" "J"] ++ wsX70)
def wsX7_weft : List Cond := .code yX7_weft cX7_weft 2 (some .boolean) :: ([.fieldLink RX7 74 "LoomDeskModel" "thrown" "I", .fieldLink RX7 47 "LoomDeskModel" "power" "Z", .fieldLink RX7 197 "LoomDeskModel" "broken" "Z"] ++ wsX70)
def wsX7_jump : List Cond := .code yX7_jump cX7_jump 3 (some .boolean) :: ([.fieldLink RX7 74 "LoomDeskModel" "thrown" "I", .fieldLink RX7 151 "LoomDeskModel" "mode" "I", .fieldLink RX7 220 "LoomDeskModel" "angle" "I", .fieldLink RX7 130 "LoomDeskModel" "length" "J", .fieldLink RX7 47 "LoomDeskModel" "power" "Z", .fieldLink RX7 163 "LoomDeskModel" "place" "J"] ++ wsX70)
def wsX7_speed : List Cond := .code yX7_speed cX7_speed 2 (some .boolean) :: ([.fieldLink RX7 74 "LoomDeskModel" "thrown" "I", .fieldLink RX7 151 "LoomDeskModel" "mode" "I", .constantFloat RX7 243 (1114636288), .constantFloat RX7 244 (1133903872), .constantFloat RX7 245 (1090519040), .fieldLink RX7 51 "LoomDeskModel" "speed" "I"] ++ wsX70)
def wsX7_cut : List Cond := .code yX7_cut cX7_cut 2 (some .boolean) :: ([.fieldLink RX7 74 "LoomDeskModel" "thrown" "I", .fieldLink RX7 47 "LoomDeskModel" "power" "Z", .fieldLink RX7 151 "LoomDeskModel" "mode" "I", .fieldLink RX7 200 "LoomDeskModel" "pick" "I", .fieldLink RX7 197 "LoomDeskModel" "broken" "Z", .fieldLink RX7 185 "LoomDeskModel" "shed" "I", .fieldLink RX7 188 "LoomDeskModel" "carrier" "I", .fieldLink RX7 182 "LoomDeskModel" "cloths" "I", .fieldLink RX7 64 "LoomDeskModel" "there" "[Z", .fieldLink RX7 179 "LoomDeskModel" "written" "I"] ++ wsX70)
def wsX7_on : List Cond := .code yX7_on cX7_on 2 (some .boolean) :: ([.fieldLink RX7 74 "LoomDeskModel" "thrown" "I", .fieldLink RX7 47 "LoomDeskModel" "power" "Z", .fieldLink RX7 64 "LoomDeskModel" "there" "[Z", .fieldLink RX7 179 "LoomDeskModel" "written" "I", .fieldLink RX7 71 "LoomDeskModel" "recorded" "[J", .fieldLink RX7 163 "LoomDeskModel" "place" "J", .fieldLink RX7 68 "LoomDeskModel" "upper" "[Z", .fieldLink RX7 220 "LoomDeskModel" "angle" "I", .fieldLink RX7 130 "LoomDeskModel" "length" "J", .fieldLink RX7 200 "LoomDeskModel" "pick" "I"] ++ wsX70)
def wsX7_angle : List Cond := .code yX7_angle cX7_angle 1 (some .double) :: ([.fieldLink RX7 74 "LoomDeskModel" "thrown" "I", .fieldLink RX7 220 "LoomDeskModel" "angle" "I", .constantDouble RX7 230 (4625196817309499392)] ++ wsX70)
def wsX7_left : List Cond := .code yX7_left cX7_left 1 (some .float) :: ([.fieldLink RX7 74 "LoomDeskModel" "thrown" "I", .fieldLink RX7 151 "LoomDeskModel" "mode" "I", .fieldLink RX7 170 "LoomDeskModel" "left" "I", .constantFloat RX7 246 (1098907648)] ++ wsX70)
def wsX7_roll : List Cond := .code yX7_roll cX7_roll 3 (some .double) :: ([.fieldLink RX7 74 "LoomDeskModel" "thrown" "I", .constantDouble RX7 247 (13884597651183239168), .constantDouble RX7 249 (4661225614328463360), .fieldLink RX7 191 "LoomDeskModel" "quarters" "J", .constantDouble RX7 218 (4620693217682128896), .constantLong RX7 251 (11520), .constantDouble RX7 253 (4629700416936869888)] ++ wsX70)
def wsX7_letOff : List Cond := .code yX7_letOff cX7_letOff 2 (some .int) :: ([.fieldLink RX7 74 "LoomDeskModel" "thrown" "I", .constantFloat RX7 255 (3463342888), .constantFloat RX7 256 (1315859240), .constantDouble RX7 218 (4620693217682128896), .constantLong RX7 257 (100)] ++ wsX70)
def wsX7_state : List Cond := .code yX7_state cX7_state 2 (some .int) :: ([.fieldLink RX7 74 "LoomDeskModel" "thrown" "I", .fieldLink RX7 151 "LoomDeskModel" "mode" "I", .fieldLink RX7 185 "LoomDeskModel" "shed" "I", .fieldLink RX7 188 "LoomDeskModel" "carrier" "I", .fieldLink RX7 200 "LoomDeskModel" "pick" "I", .fieldLink RX7 210 "LoomDeskModel" "missed" "I", .fieldLink RX7 173 "LoomDeskModel" "orders" "I", .fieldLink RX7 191 "LoomDeskModel" "quarters" "J", .constantLong RX7 259 (4), .fieldLink RX7 47 "LoomDeskModel" "power" "Z"] ++ wsX70)
def wsX7_count : List Cond := .code yX7_count cX7_count 2 (some .long) :: ([.fieldLink RX7 74 "LoomDeskModel" "thrown" "I", .fieldLink RX7 163 "LoomDeskModel" "place" "J", .fieldLink RX7 194 "LoomDeskModel" "beaten" "J", .fieldLink RX7 213 "LoomDeskModel" "turns" "J", .constantLong RX7 261 (-1)] ++ wsX70)
def wsX7_cloth : List Cond := .code yX7_cloth cX7_cloth 4 (some .int) :: ([.fieldLink RX7 74 "LoomDeskModel" "thrown" "I", .fieldLink RX7 182 "LoomDeskModel" "cloths" "I", .fieldLink RX7 55 "LoomDeskModel" "clothShed" "[I", .fieldLink RX7 58 "LoomDeskModel" "clothCarrier" "[I", .fieldLink RX7 61 "LoomDeskModel" "clothDensity" "[I"] ++ wsX70)
def wsJ9_max_f86c9 : List Cond := .code yJ9_max_f86c9 cJ9_max_f86c9 4 (some .long) :: ([])
def wsJ9_min_7cf53 : List Cond := .code yJ9_min_7cf53 cJ9_min_7cf53 2 (some .int) :: ([])
def wsJ9_min_f86c9 : List Cond := .code yJ9_min_f86c9 cJ9_min_f86c9 4 (some .long) :: ([])
def wsL_turn_r1 : List Cond := [Cond.classLink RL 13 "java/lang/IllegalStateException", Cond.classLink RL 15 "java/lang/IllegalArgumentException", Cond.methodLink RL 7 yX6_turn, Cond.instanceMethod yX6_turn, Cond.selects RX6 yX6_turn yX6_turn, Cond.initialized RX6, Cond.code yX6_turn cX6_turn 3 (some .double), Cond.classLink RX6 106 "java/lang/IllegalStateException", Cond.initialized "java/lang/IllegalStateException", Cond.classLink RX6 115 "java/lang/IllegalArgumentException", Cond.initialized "java/lang/IllegalArgumentException", Cond.fieldLink RX6 65 "LoomDesk" "power" "Z", Cond.fieldLink RX6 19 "LoomDesk" "shaft" "LLoomDesk$Shaft;", Cond.constantDouble RX6 113 (4660134898793709568), Cond.methodLink RX6 78 yX4_stands, Cond.instanceMethod yX4_stands, Cond.selects RX4 yX4_stands yX4_stands, Cond.initialized RX4, Cond.code yX4_stands cX4_stands 1 (some .boolean), Cond.fieldLink RX4 15 "LoomDesk$Shaft" "mode" "I", Cond.methodLink RX6 120 yX6_sixteenths, Cond.static yX6_sixteenths, Cond.code yX6_sixteenths cX6_sixteenths 3 (some .int), Cond.constantDouble RX6 179 (4620693217682128896)]
def wsL_turn_r2 : List Cond := [Cond.methodLink RX6 124 yX6_goForwards, Cond.instanceMethod yX6_goForwards, Cond.selects RX6 yX6_goForwards yX6_goForwards, Cond.code yX6_goForwards cX6_goForwards 5 (some .int), Cond.methodLink RX6 213 yX4_markAbove, Cond.instanceMethod yX4_markAbove, Cond.selects RX4 yX4_markAbove yX4_markAbove, Cond.code yX4_markAbove cX4_markAbove 1 (some .int), Cond.fieldLink RX4 9 "LoomDesk$Shaft" "at" "I", Cond.methodLink RX6 216 yX4_goTowards, Cond.instanceMethod yX4_goTowards, Cond.selects RX4 yX4_goTowards yX4_goTowards, Cond.code yX4_goTowards cX4_goTowards 4 (some .int), Cond.methodLink RX4 31 Lib.Math.min.name, Cond.static Lib.Math.min.name, Cond.initialized "java/lang/Math", Cond.code Lib.Math.min.name Lib.Math.min.code 2 (some .int), Cond.fieldLink RX4 18 "LoomDesk$Shaft" "toGo" "I", Cond.methodLink RX6 219 yX6_comeTo, Cond.instanceMethod yX6_comeTo, Cond.selects RX6 yX6_comeTo yX6_comeTo, Cond.code yX6_comeTo cX6_comeTo 2 none, Cond.fieldLink RX6 40 "LoomDesk" "pattern" "LLoomDesk$Pattern;", Cond.fieldLink RX6 44 "LoomDesk" "place" "J"]
def wsL_turn_r3 : List Cond := [Cond.fieldLink RX6 52 "LoomDesk" "carrier" "I", Cond.fieldLink RX6 48 "LoomDesk" "shed" "I", Cond.fieldLink RX6 33 "LoomDesk" "records" "LLoomDesk$Records;", Cond.methodLink RX6 96 yX1_tell, Cond.instanceMethod yX1_tell, Cond.selects RX1 yX1_tell yX1_tell, Cond.initialized RX1, Cond.code yX1_tell cX1_tell 6 (some .int), Cond.fieldLink RX1 41 "LoomDesk$Pattern" "ahead" "J", Cond.fieldLink RX1 44 "LoomDesk$Pattern" "carrier" "I", Cond.fieldLink RX1 47 "LoomDesk$Pattern" "density" "I", Cond.fieldLink RX1 33 "LoomDesk$Pattern" "size" "I", Cond.fieldLink RX1 13 "LoomDesk$Pattern" "kinds" "[I", Cond.fieldLink RX1 17 "LoomDesk$Pattern" "values" "[I", Cond.methodLink RX1 50 yX1_has, Cond.instanceMethod yX1_has, Cond.selects RX1 yX1_has yX1_has, Cond.code yX1_has cX1_has 3 (some .boolean), Cond.fieldLink RX1 37 "LoomDesk$Pattern" "picks" "J", Cond.methodLink RX1 60 yX1_tellHere, Cond.instanceMethod yX1_tellHere, Cond.selects RX1 yX1_tellHere yX1_tellHere, Cond.code yX1_tellHere cX1_tellHere 3 (some .int), Cond.methodLink RX1 64 yX1_pass]
def wsL_turn_r4 : List Cond := [Cond.instanceMethod yX1_pass, Cond.selects RX1 yX1_pass yX1_pass, Cond.code yX1_pass cX1_pass 2 (some .int), Cond.methodLink RX1 68 yX1_passBracket, Cond.instanceMethod yX1_passBracket, Cond.selects RX1 yX1_passBracket yX1_passBracket, Cond.code yX1_passBracket cX1_passBracket 6 (some .int), Cond.fieldLink RX1 23 "LoomDesk$Pattern" "insides" "[J", Cond.fieldLink RX1 27 "LoomDesk$Pattern" "carriers" "[I", Cond.fieldLink RX1 30 "LoomDesk$Pattern" "densities" "[I", Cond.fieldLink RX1 20 "LoomDesk$Pattern" "ends" "[I", Cond.methodLink RX6 225 yX6_insert, Cond.instanceMethod yX6_insert, Cond.selects RX6 yX6_insert yX6_insert, Cond.code yX6_insert cX6_insert 1 none, Cond.fieldLink RX6 61 "LoomDesk" "breakTold" "Z", Cond.fieldLink RX6 55 "LoomDesk" "pick" "I", Cond.methodLink RX6 103 yX4_orderBrake, Cond.instanceMethod yX4_orderBrake, Cond.selects RX4 yX4_orderBrake yX4_orderBrake, Cond.code yX4_orderBrake cX4_orderBrake 1 (some .boolean), Cond.fieldLink RX4 21 "LoomDesk$Shaft" "pace" "I", Cond.fieldLink RX4 24 "LoomDesk$Shaft" "orders" "I", Cond.methodLink RX6 228 yX3_write]
def wsL_turn_r5 : List Cond := [Cond.instanceMethod yX3_write, Cond.selects RX3 yX3_write yX3_write, Cond.initialized RX3, Cond.code yX3_write cX3_write 4 none, Cond.fieldLink RX3 19 "LoomDesk$Records" "last" "I", Cond.fieldLink RX3 9 "LoomDesk$Records" "marks" "[I", Cond.fieldLink RX3 15 "LoomDesk$Records" "places" "[J", Cond.methodLink RX3 23 yX3_other, Cond.instanceMethod yX3_other, Cond.selects RX3 yX3_other yX3_other, Cond.code yX3_other cX3_other 1 (some .int), Cond.methodLink RX6 232 yX6_endTurn, Cond.instanceMethod yX6_endTurn, Cond.selects RX6 yX6_endTurn yX6_endTurn, Cond.code yX6_endTurn cX6_endTurn 1 none, Cond.fieldLink RX6 26 "LoomDesk" "woven" "LLoomDesk$Cloth;", Cond.fieldLink RX6 58 "LoomDesk" "missed" "I", Cond.methodLink RX6 235 yX0_beatUp, Cond.instanceMethod yX0_beatUp, Cond.selects RX0 yX0_beatUp yX0_beatUp, Cond.initialized RX0, Cond.code yX0_beatUp cX0_beatUp 5 none, Cond.fieldLink RX0 21 "LoomDesk$Cloth" "next" "I", Cond.fieldLink RX0 11 "LoomDesk$Cloth" "sheds" "[I"]
def wsL_turn_r6 : List Cond := [Cond.fieldLink RX0 15 "LoomDesk$Cloth" "carriers" "[I", Cond.fieldLink RX0 18 "LoomDesk$Cloth" "densities" "[I", Cond.fieldLink RX0 25 "LoomDesk$Cloth" "kept" "I", Cond.methodLink RX0 41 Lib.Math.min.name, Cond.fieldLink RX0 28 "LoomDesk$Cloth" "beaten" "J", Cond.fieldLink RX0 32 "LoomDesk$Cloth" "taken" "J", Cond.methodLink RX0 35 yJ9_floorMod_7cf53, Cond.static yJ9_floorMod_7cf53, Cond.initialized RJ9, Cond.code yJ9_floorMod_7cf53 cJ9_floorMod_7cf53 3 (some .int), Cond.methodLink RX0 44 yX0_quarters, Cond.static yX0_quarters, Cond.code yX0_quarters cX0_quarters 1 (some .int), Cond.methodLink RX6 239 yX1_behind, Cond.instanceMethod yX1_behind, Cond.selects RX1 yX1_behind yX1_behind, Cond.code yX1_behind cX1_behind 3 (some .long), Cond.methodLink RX6 222 yX4_standWhenSpent, Cond.instanceMethod yX4_standWhenSpent, Cond.selects RX4 yX4_standWhenSpent yX4_standWhenSpent, Cond.code yX4_standWhenSpent cX4_standWhenSpent 1 none, Cond.methodLink RX4 37 yX4_stand, Cond.instanceMethod yX4_stand, Cond.selects RX4 yX4_stand yX4_stand]
def wsL_turn_r7 : List Cond := [Cond.code yX4_stand cX4_stand 1 none, Cond.methodLink RX6 128 yX6_degrees, Cond.static yX6_degrees, Cond.code yX6_degrees cX6_degrees 1 (some .double), Cond.constantDouble RX6 211 (4625196817309499392)]
def wsL_turn : List Cond := .codeWith yL_turn cL_turn 5 (some .int) [(0, 8, 11, 13), (0, 8, 15, 15)] :: ((wsL_turn_r1 ++ (wsL_turn_r2 ++ (wsL_turn_r3 ++ (wsL_turn_r4 ++ (wsL_turn_r5 ++ (wsL_turn_r6 ++ wsL_turn_r7)))))) ++ wsX60 ++ wsX40 ++ wsX10 ++ wsX30 ++ wsX00 ++ (vx_atS RX6 110 "java/lang/IllegalStateException" ["java/lang/RuntimeException", "java/lang/Exception"]).filter goodWord ++ (vx_atS RX6 119 "java/lang/IllegalArgumentException" ["java/lang/RuntimeException", "java/lang/Exception"]).filter goodWord)
def wsL_back_r1 : List Cond := [Cond.classLink RL 13 "java/lang/IllegalStateException", Cond.classLink RL 15 "java/lang/IllegalArgumentException", Cond.methodLink RL 17 yX6_back, Cond.instanceMethod yX6_back, Cond.selects RX6 yX6_back yX6_back, Cond.initialized RX6, Cond.code yX6_back cX6_back 3 (some .double), Cond.classLink RX6 106 "java/lang/IllegalStateException", Cond.initialized "java/lang/IllegalStateException", Cond.classLink RX6 115 "java/lang/IllegalArgumentException", Cond.initialized "java/lang/IllegalArgumentException", Cond.fieldLink RX6 65 "LoomDesk" "power" "Z", Cond.fieldLink RX6 19 "LoomDesk" "shaft" "LLoomDesk$Shaft;", Cond.fieldLink RX6 40 "LoomDesk" "pattern" "LLoomDesk$Pattern;", Cond.constantDouble RX6 134 (4652464705678344192), Cond.methodLink RX6 78 yX4_stands, Cond.instanceMethod yX4_stands, Cond.selects RX4 yX4_stands yX4_stands, Cond.initialized RX4, Cond.code yX4_stands cX4_stands 1 (some .boolean), Cond.fieldLink RX4 15 "LoomDesk$Shaft" "mode" "I", Cond.methodLink RX6 120 yX6_sixteenths, Cond.static yX6_sixteenths, Cond.code yX6_sixteenths cX6_sixteenths 3 (some .int)]
def wsL_back_r2 : List Cond := [Cond.constantDouble RX6 179 (4620693217682128896), Cond.methodLink RX6 138 yX6_goBackwards, Cond.instanceMethod yX6_goBackwards, Cond.selects RX6 yX6_goBackwards yX6_goBackwards, Cond.code yX6_goBackwards cX6_goBackwards 7 none, Cond.methodLink RX6 243 yX4_markBelow, Cond.instanceMethod yX4_markBelow, Cond.selects RX4 yX4_markBelow yX4_markBelow, Cond.code yX4_markBelow cX4_markBelow 2 (some .int), Cond.methodLink RX6 246 yX6_undo, Cond.instanceMethod yX6_undo, Cond.selects RX6 yX6_undo yX6_undo, Cond.code yX6_undo cX6_undo 2 none, Cond.fieldLink RX6 55 "LoomDesk" "pick" "I", Cond.methodLink RX6 249 yX6_reopenTurn, Cond.instanceMethod yX6_reopenTurn, Cond.selects RX6 yX6_reopenTurn yX6_reopenTurn, Cond.code yX6_reopenTurn cX6_reopenTurn 1 none, Cond.fieldLink RX6 26 "LoomDesk" "woven" "LLoomDesk$Cloth;", Cond.fieldLink RX6 44 "LoomDesk" "place" "J", Cond.methodLink RX6 252 yX0_takeOff, Cond.instanceMethod yX0_takeOff, Cond.selects RX0 yX0_takeOff yX0_takeOff, Cond.initialized RX0]
def wsL_back_r3 : List Cond := [Cond.code yX0_takeOff cX0_takeOff 1 (some .boolean), Cond.fieldLink RX0 25 "LoomDesk$Cloth" "kept" "I", Cond.fieldLink RX0 21 "LoomDesk$Cloth" "next" "I", Cond.fieldLink RX0 28 "LoomDesk$Cloth" "beaten" "J", Cond.fieldLink RX0 32 "LoomDesk$Cloth" "taken" "J", Cond.fieldLink RX0 18 "LoomDesk$Cloth" "densities" "[I", Cond.methodLink RX0 48 yX0_slotOf, Cond.instanceMethod yX0_slotOf, Cond.selects RX0 yX0_slotOf yX0_slotOf, Cond.code yX0_slotOf cX0_slotOf 2 (some .int), Cond.methodLink RX0 35 yJ9_floorMod_7cf53, Cond.static yJ9_floorMod_7cf53, Cond.initialized RJ9, Cond.code yJ9_floorMod_7cf53 cJ9_floorMod_7cf53 3 (some .int), Cond.methodLink RX0 44 yX0_quarters, Cond.static yX0_quarters, Cond.code yX0_quarters cX0_quarters 1 (some .int), Cond.methodLink RX6 255 yX1_before, Cond.instanceMethod yX1_before, Cond.selects RX1 yX1_before yX1_before, Cond.initialized RX1, Cond.code yX1_before cX1_before 3 (some .long), Cond.fieldLink RX1 37 "LoomDesk$Pattern" "picks" "J", Cond.methodLink RX1 54 Lib.MathLoose.max_long.x]
def wsL_back_r4 : List Cond := [Cond.static Lib.MathLoose.max_long.x, Cond.initialized "java/lang/Math", Cond.code Lib.MathLoose.max_long.x Lib.MathLoose.max_long.code 4 (some .long), Cond.methodLink RX1 50 yX1_has, Cond.instanceMethod yX1_has, Cond.selects RX1 yX1_has yX1_has, Cond.code yX1_has cX1_has 3 (some .boolean), Cond.methodLink RX6 128 yX6_degrees, Cond.static yX6_degrees, Cond.code yX6_degrees cX6_degrees 1 (some .double), Cond.constantDouble RX6 211 (4625196817309499392)]
def wsL_back : List Cond := .codeWith yL_back cL_back 5 (some .int) [(0, 8, 11, 13), (0, 8, 15, 15)] :: ((wsL_back_r1 ++ (wsL_back_r2 ++ (wsL_back_r3 ++ wsL_back_r4))) ++ wsX60 ++ wsX10 ++ wsX40 ++ wsX00 ++ (vx_atS RX6 110 "java/lang/IllegalStateException" ["java/lang/RuntimeException", "java/lang/Exception"]).filter goodWord ++ (vx_atS RX6 119 "java/lang/IllegalArgumentException" ["java/lang/RuntimeException", "java/lang/Exception"]).filter goodWord)
def wsL_law0_r1 : List Cond := [Cond.classLink RL 8 RX6, Cond.instantiable RX6 12, Cond.initialized RX6, Cond.classLink RL 21 RX7, Cond.instantiable RX7 44, Cond.initialized RX7, Cond.arrayClass .double, Cond.constantLong RL 24 (4294967295), Cond.constantDouble RL 55 (4593671619917905920), Cond.constantFloat RL 83 (1040187392), Cond.methodLink RL 20 yX6_init, Cond.instanceMethod yX6_init, Cond.code yX6_init cX6_init 1 none, Cond.methodLink RX6 3 objectInit, Cond.instanceMethod objectInit, Cond.code objectInit ⟨#[0xb1]⟩ 1 none, Cond.classLink RX6 9 RX2, Cond.instantiable RX2 9, Cond.initialized RX2, Cond.fieldLink RX6 12 "LoomDesk" "reader" "LLoomDesk$Reader;", Cond.classLink RX6 16 RX4, Cond.instantiable RX4 6, Cond.initialized RX4, Cond.fieldLink RX6 19 "LoomDesk" "shaft" "LLoomDesk$Shaft;"]
def wsL_law0_r2 : List Cond := [Cond.classLink RX6 23 RX0, Cond.instantiable RX0 7, Cond.initialized RX0, Cond.fieldLink RX6 26 "LoomDesk" "woven" "LLoomDesk$Cloth;", Cond.classLink RX6 30 RX3, Cond.instantiable RX3 3, Cond.initialized RX3, Cond.fieldLink RX6 33 "LoomDesk" "records" "LLoomDesk$Records;", Cond.classLink RX6 37 RX1, Cond.instantiable RX1 11, Cond.initialized RX1, Cond.fieldLink RX6 40 "LoomDesk" "pattern" "LLoomDesk$Pattern;", Cond.fieldLink RX6 44 "LoomDesk" "place" "J", Cond.fieldLink RX6 48 "LoomDesk" "shed" "I", Cond.fieldLink RX6 52 "LoomDesk" "carrier" "I", Cond.fieldLink RX6 55 "LoomDesk" "pick" "I", Cond.fieldLink RX6 58 "LoomDesk" "missed" "I", Cond.fieldLink RX6 61 "LoomDesk" "breakTold" "Z", Cond.fieldLink RX6 65 "LoomDesk" "power" "Z", Cond.methodLink RX6 11 yX2_init, Cond.instanceMethod yX2_init, Cond.code yX2_init cX2_init 1 none, Cond.methodLink RX2 3 objectInit, Cond.classLink RX2 9 RX5]
def wsL_law0_r3 : List Cond := [Cond.instantiable RX5 2, Cond.initialized RX5, Cond.fieldLink RX2 12 "LoomDesk$Reader" "tape" "LLoomDesk$Tape;", Cond.classLink RX2 18 RX1, Cond.fieldLink RX2 21 "LoomDesk$Reader" "goal" "LLoomDesk$Pattern;", Cond.fieldLink RX2 25 "LoomDesk$Reader" "pos" "I", Cond.fieldLink RX2 29 "LoomDesk$Reader" "fault" "I", Cond.fieldLink RX2 32 "LoomDesk$Reader" "depth" "I", Cond.arrayClass .int, Cond.fieldLink RX2 35 "LoomDesk$Reader" "items" "[I", Cond.arrayClass .long, Cond.fieldLink RX2 39 "LoomDesk$Reader" "picks" "[J", Cond.fieldLink RX2 43 "LoomDesk$Reader" "carriers" "[I", Cond.fieldLink RX2 46 "LoomDesk$Reader" "densities" "[I", Cond.methodLink RX2 11 yX5_init, Cond.instanceMethod yX5_init, Cond.code yX5_init cX5_init 1 none, Cond.methodLink RX5 3 objectInit, Cond.fieldLink RX5 11 "LoomDesk$Tape" "chars" "[I", Cond.fieldLink RX5 15 "LoomDesk$Tape" "size" "I", Cond.methodLink RX2 20 yX1_init, Cond.instanceMethod yX1_init, Cond.code yX1_init cX1_init 1 none, Cond.methodLink RX1 5 objectInit]
def wsL_law0_r4 : List Cond := [Cond.fieldLink RX1 13 "LoomDesk$Pattern" "kinds" "[I", Cond.fieldLink RX1 17 "LoomDesk$Pattern" "values" "[I", Cond.fieldLink RX1 20 "LoomDesk$Pattern" "ends" "[I", Cond.fieldLink RX1 23 "LoomDesk$Pattern" "insides" "[J", Cond.fieldLink RX1 27 "LoomDesk$Pattern" "carriers" "[I", Cond.fieldLink RX1 30 "LoomDesk$Pattern" "densities" "[I", Cond.fieldLink RX1 33 "LoomDesk$Pattern" "size" "I", Cond.fieldLink RX1 37 "LoomDesk$Pattern" "picks" "J", Cond.fieldLink RX1 41 "LoomDesk$Pattern" "ahead" "J", Cond.fieldLink RX1 44 "LoomDesk$Pattern" "carrier" "I", Cond.fieldLink RX1 47 "LoomDesk$Pattern" "density" "I", Cond.methodLink RX6 18 yX4_init, Cond.instanceMethod yX4_init, Cond.code yX4_init cX4_init 1 none, Cond.methodLink RX4 3 objectInit, Cond.fieldLink RX4 9 "LoomDesk$Shaft" "at" "I", Cond.fieldLink RX4 15 "LoomDesk$Shaft" "mode" "I", Cond.fieldLink RX4 18 "LoomDesk$Shaft" "toGo" "I", Cond.fieldLink RX4 21 "LoomDesk$Shaft" "pace" "I", Cond.fieldLink RX4 24 "LoomDesk$Shaft" "orders" "I", Cond.fieldLink RX4 27 "LoomDesk$Shaft" "turns" "J", Cond.methodLink RX6 25 yX0_init, Cond.instanceMethod yX0_init, Cond.code yX0_init cX0_init 1 none]
def wsL_law0_r5 : List Cond := [Cond.methodLink RX0 3 objectInit, Cond.fieldLink RX0 11 "LoomDesk$Cloth" "sheds" "[I", Cond.fieldLink RX0 15 "LoomDesk$Cloth" "carriers" "[I", Cond.fieldLink RX0 18 "LoomDesk$Cloth" "densities" "[I", Cond.fieldLink RX0 21 "LoomDesk$Cloth" "next" "I", Cond.fieldLink RX0 25 "LoomDesk$Cloth" "kept" "I", Cond.fieldLink RX0 28 "LoomDesk$Cloth" "beaten" "J", Cond.fieldLink RX0 32 "LoomDesk$Cloth" "taken" "J", Cond.methodLink RX6 32 yX3_init, Cond.instanceMethod yX3_init, Cond.code yX3_init cX3_init 1 none, Cond.methodLink RX3 3 objectInit, Cond.fieldLink RX3 9 "LoomDesk$Records" "marks" "[I", Cond.fieldLink RX3 15 "LoomDesk$Records" "places" "[J", Cond.fieldLink RX3 19 "LoomDesk$Records" "last" "I", Cond.methodLink RX6 39 yX1_init, Cond.methodLink RL 23 yX7_init, Cond.instanceMethod yX7_init, Cond.code yX7_init cX7_init 1 none, Cond.methodLink RX7 1 objectInit, Cond.fieldLink RX7 7 "LoomDeskModel" "tape" "[I", Cond.fieldLink RX7 13 "LoomDeskModel" "kind" "[I", Cond.fieldLink RX7 16 "LoomDeskModel" "value" "[I", Cond.fieldLink RX7 19 "LoomDeskModel" "end" "[I"]
def wsL_law0_r6 : List Cond := [Cond.fieldLink RX7 22 "LoomDeskModel" "carrierOut" "[I", Cond.fieldLink RX7 25 "LoomDeskModel" "densityOut" "[I", Cond.fieldLink RX7 28 "LoomDeskModel" "picks" "[J", Cond.fieldLink RX7 32 "LoomDeskModel" "newKind" "[I", Cond.fieldLink RX7 35 "LoomDeskModel" "newValue" "[I", Cond.fieldLink RX7 38 "LoomDeskModel" "newEnd" "[I", Cond.fieldLink RX7 41 "LoomDeskModel" "open" "[I", Cond.fieldLink RX7 44 "LoomDeskModel" "before" "[I", Cond.fieldLink RX7 47 "LoomDeskModel" "power" "Z", Cond.fieldLink RX7 51 "LoomDeskModel" "speed" "I", Cond.fieldLink RX7 55 "LoomDeskModel" "clothShed" "[I", Cond.fieldLink RX7 58 "LoomDeskModel" "clothCarrier" "[I", Cond.fieldLink RX7 61 "LoomDeskModel" "clothDensity" "[I", Cond.arrayClass .boolean, Cond.fieldLink RX7 64 "LoomDeskModel" "there" "[Z", Cond.fieldLink RX7 68 "LoomDeskModel" "upper" "[Z", Cond.fieldLink RX7 71 "LoomDeskModel" "recorded" "[J", Cond.methodLink RL 26 yX6_type, Cond.instanceMethod yX6_type, Cond.selects RX6 yX6_type yX6_type, Cond.code yX6_type cX6_type 4 (some .boolean), Cond.methodLink RX6 72 yX5_put, Cond.instanceMethod yX5_put, Cond.selects RX5 yX5_put yX5_put]
def wsL_law0_r7 : List Cond := [Cond.code yX5_put cX5_put 6 (some .boolean), Cond.methodLink RX5 19 yX5_byteOf, Cond.static yX5_byteOf, Cond.code yX5_byteOf cX5_byteOf 3 (some .int), Cond.methodLink RX5 23 yX5_add, Cond.instanceMethod yX5_add, Cond.selects RX5 yX5_add yX5_add, Cond.code yX5_add cX5_add 2 none, Cond.methodLink RL 30 yX7_type, Cond.instanceMethod yX7_type, Cond.selects RX7 yX7_type yX7_type, Cond.code yX7_type cX7_type 7 (some .boolean), Cond.fieldLink RX7 74 "LoomDeskModel" "thrown" "I", Cond.fieldLink RX7 77 "LoomDeskModel" "typed" "I", Cond.constantLong RX7 80 (255), Cond.constantLong RX7 82 (32), Cond.constantLong RX7 84 (126), Cond.methodLink RL 31 yX6_compile, Cond.instanceMethod yX6_compile, Cond.selects RX6 yX6_compile yX6_compile, Cond.code yX6_compile cX6_compile 2 (some .int), Cond.methodLink RX6 78 yX4_stands, Cond.instanceMethod yX4_stands, Cond.selects RX4 yX4_stands yX4_stands]
def wsL_law0_r8 : List Cond := [Cond.code yX4_stands cX4_stands 1 (some .boolean), Cond.methodLink RX6 82 yX2_read, Cond.instanceMethod yX2_read, Cond.selects RX2 yX2_read yX2_read, Cond.code yX2_read cX2_read 3 (some .int), Cond.constantLong RX2 69 (2000000000), Cond.methodLink RX2 49 yX1_clear, Cond.instanceMethod yX1_clear, Cond.selects RX1 yX1_clear yX1_clear, Cond.code yX1_clear cX1_clear 1 none, Cond.methodLink RX2 52 yX5_behindBlanks, Cond.instanceMethod yX5_behindBlanks, Cond.selects RX5 yX5_behindBlanks yX5_behindBlanks, Cond.code yX5_behindBlanks cX5_behindBlanks 4 (some .int), Cond.methodLink RX5 27 yX5_charOf, Cond.instanceMethod yX5_charOf, Cond.selects RX5 yX5_charOf yX5_charOf, Cond.code yX5_charOf cX5_charOf 2 (some .int), Cond.methodLink RX2 56 yX2_beginLevel, Cond.instanceMethod yX2_beginLevel, Cond.selects RX2 yX2_beginLevel yX2_beginLevel, Cond.code yX2_beginLevel cX2_beginLevel 1 none, Cond.methodLink RX2 62 yX2_readItem, Cond.instanceMethod yX2_readItem]
def wsL_law0_r9 : List Cond := [Cond.selects RX2 yX2_readItem yX2_readItem, Cond.code yX2_readItem cX2_readItem 1 none, Cond.methodLink RX2 75 yX5_charOf, Cond.methodLink RX2 78 yX2_readPick, Cond.instanceMethod yX2_readPick, Cond.selects RX2 yX2_readPick yX2_readPick, Cond.code yX2_readPick cX2_readPick 1 none, Cond.methodLink RX2 97 yX2_readDigits, Cond.instanceMethod yX2_readDigits, Cond.selects RX2 yX2_readDigits yX2_readDigits, Cond.code yX2_readDigits cX2_readDigits 7 (some .int), Cond.constant RX2 128 (16777215), Cond.methodLink RX2 129 Lib.Math.min.name, Cond.static Lib.Math.min.name, Cond.initialized "java/lang/Math", Cond.code Lib.Math.min.name Lib.Math.min.code 2 (some .int), Cond.methodLink RX2 125 yX2_digitOf, Cond.static yX2_digitOf, Cond.code yX2_digitOf cX2_digitOf 1 (some .int), Cond.methodLink RX2 65 yX2_faultAt, Cond.instanceMethod yX2_faultAt, Cond.selects RX2 yX2_faultAt yX2_faultAt, Cond.code yX2_faultAt cX2_faultAt 2 none, Cond.methodLink RX2 101 yX1_add]
def wsL_law0_r10 : List Cond := [Cond.instanceMethod yX1_add, Cond.selects RX1 yX1_add yX1_add, Cond.code yX1_add cX1_add 3 none, Cond.methodLink RX2 104 yX2_addPicks, Cond.instanceMethod yX2_addPicks, Cond.selects RX2 yX2_addPicks yX2_addPicks, Cond.code yX2_addPicks cX2_addPicks 3 none, Cond.constantLong RX2 117 (2000000001), Cond.methodLink RX2 119 Lib.MathLoose.min_long.x, Cond.static Lib.MathLoose.min_long.x, Cond.code Lib.MathLoose.min_long.x Lib.MathLoose.min_long.code 4 (some .long), Cond.methodLink RX2 81 yX2_readCarrier, Cond.instanceMethod yX2_readCarrier, Cond.selects RX2 yX2_readCarrier yX2_readCarrier, Cond.code yX2_readCarrier cX2_readCarrier 2 none, Cond.methodLink RX2 84 yX2_readDensity, Cond.instanceMethod yX2_readDensity, Cond.selects RX2 yX2_readDensity yX2_readDensity, Cond.code yX2_readDensity cX2_readDensity 3 none, Cond.methodLink RX2 108 yX2_isAllowed, Cond.static yX2_isAllowed, Cond.code yX2_isAllowed cX2_isAllowed 2 (some .boolean), Cond.fieldLink RX2 131 "LoomDesk$Reader" "ALLOWED" "[I", Cond.methodLink RX2 87 yX2_readRepeat]
def wsL_law0_r11 : List Cond := [Cond.instanceMethod yX2_readRepeat, Cond.selects RX2 yX2_readRepeat yX2_readRepeat, Cond.code yX2_readRepeat cX2_readRepeat 3 none, Cond.methodLink RX2 90 yX2_open, Cond.instanceMethod yX2_open, Cond.selects RX2 yX2_open yX2_open, Cond.code yX2_open cX2_open 3 none, Cond.methodLink RX2 94 yX2_close, Cond.instanceMethod yX2_close, Cond.selects RX2 yX2_close yX2_close, Cond.code yX2_close cX2_close 6 none, Cond.methodLink RX2 113 yX1_end, Cond.instanceMethod yX1_end, Cond.selects RX1 yX1_end yX1_end, Cond.code yX1_end cX1_end 6 (some .int), Cond.methodLink RX2 74 yX5_clear, Cond.instanceMethod yX5_clear, Cond.selects RX5 yX5_clear yX5_clear, Cond.code yX5_clear cX5_clear 1 none, Cond.methodLink RX6 86 yX2_exchange, Cond.instanceMethod yX2_exchange, Cond.selects RX2 yX2_exchange yX2_exchange, Cond.code yX2_exchange cX2_exchange 3 (some (.object "LoomDesk$Pattern")), Cond.methodLink RX6 90 yX3_clear]
def wsL_law0_r12 : List Cond := [Cond.instanceMethod yX3_clear, Cond.selects RX3 yX3_clear yX3_clear, Cond.code yX3_clear cX3_clear 1 none, Cond.methodLink RL 35 yX7_compile, Cond.instanceMethod yX7_compile, Cond.selects RX7 yX7_compile yX7_compile, Cond.code yX7_compile cX7_compile 3 (some .int), Cond.fieldLink RX7 151 "LoomDeskModel" "mode" "I", Cond.fieldLink RX7 86 "LoomDeskModel" "at" "I", Cond.fieldLink RX7 130 "LoomDeskModel" "length" "J", Cond.constantLong RX7 161 (2000000000), Cond.fieldLink RX7 163 "LoomDeskModel" "place" "J", Cond.methodLink RX7 154 yX7_reads, Cond.instanceMethod yX7_reads, Cond.selects RX7 yX7_reads yX7_reads, Cond.code yX7_reads cX7_reads 2 (some .boolean), Cond.fieldLink RX7 93 "LoomDeskModel" "newItems" "I", Cond.fieldLink RX7 114 "LoomDeskModel" "opens" "I", Cond.fieldLink RX7 104 "LoomDeskModel" "seen" "I", Cond.fieldLink RX7 117 "LoomDeskModel" "wants" "Z", Cond.methodLink RX7 111 yX7_skip, Cond.instanceMethod yX7_skip, Cond.selects RX7 yX7_skip yX7_skip, Cond.code yX7_skip cX7_skip 1 none]
def wsL_law0_r13 : List Cond := [Cond.methodLink RX7 89 yX7_see, Cond.instanceMethod yX7_see, Cond.selects RX7 yX7_see yX7_see, Cond.code yX7_see cX7_see 1 (some .int), Cond.methodLink RX7 120 yX7_readsWord, Cond.instanceMethod yX7_readsWord, Cond.selects RX7 yX7_readsWord yX7_readsWord, Cond.code yX7_readsWord cX7_readsWord 6 (some .boolean), Cond.methodLink RX7 96 yX7_digit, Cond.static yX7_digit, Cond.code yX7_digit cX7_digit 1 (some .int), Cond.methodLink RX7 100 yX7_isDensity, Cond.static yX7_isDensity, Cond.code yX7_isDensity cX7_isDensity 1 (some .boolean), Cond.methodLink RX7 107 yX7_item, Cond.instanceMethod yX7_item, Cond.selects RX7 yX7_item yX7_item, Cond.code yX7_item cX7_item 3 none, Cond.methodLink RX7 123 yX7_readsOpening, Cond.instanceMethod yX7_readsOpening, Cond.selects RX7 yX7_readsOpening yX7_readsOpening, Cond.code yX7_readsOpening cX7_readsOpening 4 (some .boolean), Cond.methodLink RX7 158 yX7_swap, Cond.instanceMethod yX7_swap]
def wsL_law0_r14 : List Cond := [Cond.selects RX7 yX7_swap yX7_swap, Cond.code yX7_swap cX7_swap 6 none, Cond.fieldLink RX7 134 "LoomDeskModel" "items" "I", Cond.methodLink RX7 148 yX7_reckon, Cond.instanceMethod yX7_reckon, Cond.selects RX7 yX7_reckon yX7_reckon, Cond.code yX7_reckon cX7_reckon 3 none, Cond.methodLink RX7 137 yX7_isBracket, Cond.instanceMethod yX7_isBracket, Cond.selects RX7 yX7_isBracket yX7_isBracket, Cond.code yX7_isBracket cX7_isBracket 2 (some .boolean), Cond.methodLink RX7 140 yX7_times, Cond.instanceMethod yX7_times, Cond.selects RX7 yX7_times yX7_times, Cond.code yX7_times cX7_times 4 (some .long), Cond.constantLong RX7 128 (2), Cond.constantLong RX7 126 (1099511627776), Cond.methodLink RX7 144 yX7_sum, Cond.static yX7_sum, Cond.code yX7_sum cX7_sum 4 (some .long), Cond.methodLink RL 36 yX6_length, Cond.instanceMethod yX6_length, Cond.selects RX6 yX6_length yX6_length, Cond.code yX6_length cX6_length 1 (some .long)]
def wsL_law0_r15 : List Cond := [Cond.methodLink RL 40 yX7_length, Cond.instanceMethod yX7_length, Cond.selects RX7 yX7_length yX7_length, Cond.code yX7_length cX7_length 1 (some .long), Cond.methodLink RL 41 yX6_design, Cond.instanceMethod yX6_design, Cond.selects RX6 yX6_design yX6_design, Cond.code yX6_design cX6_design 4 (some .int), Cond.methodLink RX6 96 yX1_tell, Cond.instanceMethod yX1_tell, Cond.selects RX1 yX1_tell yX1_tell, Cond.code yX1_tell cX1_tell 6 (some .int), Cond.methodLink RX1 50 yX1_has, Cond.instanceMethod yX1_has, Cond.selects RX1 yX1_has yX1_has, Cond.code yX1_has cX1_has 3 (some .boolean), Cond.methodLink RX1 60 yX1_tellHere, Cond.instanceMethod yX1_tellHere, Cond.selects RX1 yX1_tellHere yX1_tellHere, Cond.code yX1_tellHere cX1_tellHere 3 (some .int), Cond.methodLink RX1 64 yX1_pass, Cond.instanceMethod yX1_pass, Cond.selects RX1 yX1_pass yX1_pass, Cond.code yX1_pass cX1_pass 2 (some .int)]
def wsL_law0_r16 : List Cond := [Cond.methodLink RX1 68 yX1_passBracket, Cond.instanceMethod yX1_passBracket, Cond.selects RX1 yX1_passBracket yX1_passBracket, Cond.code yX1_passBracket cX1_passBracket 6 (some .int), Cond.methodLink RL 45 yX7_design, Cond.instanceMethod yX7_design, Cond.selects RX7 yX7_design yX7_design, Cond.code yX7_design cX7_design 4 (some .int), Cond.methodLink RX7 166 yX7_look, Cond.instanceMethod yX7_look, Cond.selects RX7 yX7_look yX7_look, Cond.code yX7_look cX7_look 11 (some .int), Cond.methodLink RL 46 yX6_start, Cond.instanceMethod yX6_start, Cond.selects RX6 yX6_start yX6_start, Cond.code yX6_start cX6_start 1 (some .boolean), Cond.methodLink RL 50 yX7_start, Cond.instanceMethod yX7_start, Cond.selects RX7 yX7_start yX7_start, Cond.code yX7_start cX7_start 1 (some .boolean), Cond.methodLink RL 51 yX6_stop, Cond.instanceMethod yX6_stop, Cond.selects RX6 yX6_stop yX6_stop, Cond.code yX6_stop cX6_stop 1 (some .boolean)]
def wsL_law0_r17 : List Cond := [Cond.methodLink RX6 103 yX4_orderBrake, Cond.instanceMethod yX4_orderBrake, Cond.selects RX4 yX4_orderBrake yX4_orderBrake, Cond.code yX4_orderBrake cX4_orderBrake 1 (some .boolean), Cond.methodLink RL 54 yX7_stop, Cond.instanceMethod yX7_stop, Cond.selects RX7 yX7_stop yX7_stop, Cond.code yX7_stop cX7_stop 1 (some .boolean), Cond.methodLink RX7 176 yX7_brakes, Cond.instanceMethod yX7_brakes, Cond.selects RX7 yX7_brakes yX7_brakes, Cond.code yX7_brakes cX7_brakes 1 none, Cond.fieldLink RX7 170 "LoomDeskModel" "left" "I", Cond.fieldLink RX7 173 "LoomDeskModel" "orders" "I", Cond.methodLink RL 57 yL_turn, Cond.static yL_turn, Cond.initialized RL, Cond.codeWith yL_turn cL_turn 5 (some .int) [(0, 8, 11, 13), (0, 8, 15, 15)], Cond.classLink RL 13 "java/lang/IllegalStateException", Cond.classLink RL 15 "java/lang/IllegalArgumentException", Cond.methodLink RL 7 yX6_turn, Cond.instanceMethod yX6_turn, Cond.selects RX6 yX6_turn yX6_turn, Cond.code yX6_turn cX6_turn 3 (some .double)]
def wsL_law0_r18 : List Cond := [Cond.classLink RX6 106 "java/lang/IllegalStateException", Cond.initialized "java/lang/IllegalStateException", Cond.classLink RX6 115 "java/lang/IllegalArgumentException", Cond.initialized "java/lang/IllegalArgumentException", Cond.constantDouble RX6 113 (4660134898793709568), Cond.methodLink RX6 120 yX6_sixteenths, Cond.static yX6_sixteenths, Cond.code yX6_sixteenths cX6_sixteenths 3 (some .int), Cond.constantDouble RX6 179 (4620693217682128896), Cond.methodLink RX6 124 yX6_goForwards, Cond.instanceMethod yX6_goForwards, Cond.selects RX6 yX6_goForwards yX6_goForwards, Cond.code yX6_goForwards cX6_goForwards 5 (some .int), Cond.methodLink RX6 213 yX4_markAbove, Cond.instanceMethod yX4_markAbove, Cond.selects RX4 yX4_markAbove yX4_markAbove, Cond.code yX4_markAbove cX4_markAbove 1 (some .int), Cond.methodLink RX6 216 yX4_goTowards, Cond.instanceMethod yX4_goTowards, Cond.selects RX4 yX4_goTowards yX4_goTowards, Cond.code yX4_goTowards cX4_goTowards 4 (some .int), Cond.methodLink RX4 31 Lib.Math.min.name, Cond.methodLink RX6 219 yX6_comeTo, Cond.instanceMethod yX6_comeTo]
def wsL_law0_r19 : List Cond := [Cond.selects RX6 yX6_comeTo yX6_comeTo, Cond.code yX6_comeTo cX6_comeTo 2 none, Cond.methodLink RX6 225 yX6_insert, Cond.instanceMethod yX6_insert, Cond.selects RX6 yX6_insert yX6_insert, Cond.code yX6_insert cX6_insert 1 none, Cond.methodLink RX6 228 yX3_write, Cond.instanceMethod yX3_write, Cond.selects RX3 yX3_write yX3_write, Cond.code yX3_write cX3_write 4 none, Cond.methodLink RX3 23 yX3_other, Cond.instanceMethod yX3_other, Cond.selects RX3 yX3_other yX3_other, Cond.code yX3_other cX3_other 1 (some .int), Cond.methodLink RX6 232 yX6_endTurn, Cond.instanceMethod yX6_endTurn, Cond.selects RX6 yX6_endTurn yX6_endTurn, Cond.code yX6_endTurn cX6_endTurn 1 none, Cond.methodLink RX6 235 yX0_beatUp, Cond.instanceMethod yX0_beatUp, Cond.selects RX0 yX0_beatUp yX0_beatUp, Cond.code yX0_beatUp cX0_beatUp 5 none, Cond.methodLink RX0 41 Lib.Math.min.name, Cond.methodLink RX0 35 yJ9_floorMod_7cf53]
def wsL_law0_r20 : List Cond := [Cond.static yJ9_floorMod_7cf53, Cond.initialized RJ9, Cond.code yJ9_floorMod_7cf53 cJ9_floorMod_7cf53 3 (some .int), Cond.methodLink RX0 44 yX0_quarters, Cond.static yX0_quarters, Cond.code yX0_quarters cX0_quarters 1 (some .int), Cond.methodLink RX6 239 yX1_behind, Cond.instanceMethod yX1_behind, Cond.selects RX1 yX1_behind yX1_behind, Cond.code yX1_behind cX1_behind 3 (some .long), Cond.methodLink RX6 222 yX4_standWhenSpent, Cond.instanceMethod yX4_standWhenSpent, Cond.selects RX4 yX4_standWhenSpent yX4_standWhenSpent, Cond.code yX4_standWhenSpent cX4_standWhenSpent 1 none, Cond.methodLink RX4 37 yX4_stand, Cond.instanceMethod yX4_stand, Cond.selects RX4 yX4_stand yX4_stand, Cond.code yX4_stand cX4_stand 1 none, Cond.methodLink RX6 128 yX6_degrees, Cond.static yX6_degrees, Cond.code yX6_degrees cX6_degrees 1 (some .double), Cond.constantDouble RX6 211 (4625196817309499392), Cond.methodLink RL 62 yX7_turn, Cond.instanceMethod yX7_turn]
def wsL_law0_r21 : List Cond := [Cond.selects RX7 yX7_turn yX7_turn, Cond.code yX7_turn cX7_turn 10 (some .double), Cond.constantDouble RX7 216 (4660134898793709568), Cond.constantDouble RX7 218 (4620693217682128896), Cond.fieldLink RX7 220 "LoomDeskModel" "angle" "I", Cond.constantDouble RX7 230 (4625196817309499392), Cond.methodLink RX7 223 yX7_above, Cond.static yX7_above, Cond.code yX7_above cX7_above 1 (some .int), Cond.methodLink RX7 226 yX7_comes, Cond.instanceMethod yX7_comes, Cond.selects RX7 yX7_comes yX7_comes, Cond.code yX7_comes cX7_comes 2 none, Cond.fieldLink RX7 188 "LoomDeskModel" "carrier" "I", Cond.fieldLink RX7 197 "LoomDeskModel" "broken" "Z", Cond.fieldLink RX7 200 "LoomDeskModel" "pick" "I", Cond.fieldLink RX7 185 "LoomDeskModel" "shed" "I", Cond.fieldLink RX7 210 "LoomDeskModel" "missed" "I", Cond.fieldLink RX7 213 "LoomDeskModel" "turns" "J", Cond.methodLink RX7 203 yX7_record, Cond.instanceMethod yX7_record, Cond.selects RX7 yX7_record yX7_record, Cond.code yX7_record cX7_record 2 none, Cond.fieldLink RX7 179 "LoomDeskModel" "written" "I"]
def wsL_law0_r22 : List Cond := [Cond.methodLink RX7 207 yX7_beatUp, Cond.instanceMethod yX7_beatUp, Cond.selects RX7 yX7_beatUp yX7_beatUp, Cond.code yX7_beatUp cX7_beatUp 3 none, Cond.fieldLink RX7 182 "LoomDeskModel" "cloths" "I", Cond.fieldLink RX7 191 "LoomDeskModel" "quarters" "J", Cond.fieldLink RX7 194 "LoomDeskModel" "beaten" "J", Cond.methodLink RL 63 yX7_thrown, Cond.instanceMethod yX7_thrown, Cond.selects RX7 yX7_thrown yX7_thrown, Cond.code yX7_thrown cX7_thrown 1 (some .int), Cond.methodLink RL 66 yL_back, Cond.static yL_back, Cond.codeWith yL_back cL_back 5 (some .int) [(0, 8, 11, 13), (0, 8, 15, 15)], Cond.methodLink RL 17 yX6_back, Cond.instanceMethod yX6_back, Cond.selects RX6 yX6_back yX6_back, Cond.code yX6_back cX6_back 3 (some .double), Cond.constantDouble RX6 134 (4652464705678344192), Cond.methodLink RX6 138 yX6_goBackwards, Cond.instanceMethod yX6_goBackwards, Cond.selects RX6 yX6_goBackwards yX6_goBackwards, Cond.code yX6_goBackwards cX6_goBackwards 7 none, Cond.methodLink RX6 243 yX4_markBelow]
def wsL_law0_r23 : List Cond := [Cond.instanceMethod yX4_markBelow, Cond.selects RX4 yX4_markBelow yX4_markBelow, Cond.code yX4_markBelow cX4_markBelow 2 (some .int), Cond.methodLink RX6 246 yX6_undo, Cond.instanceMethod yX6_undo, Cond.selects RX6 yX6_undo yX6_undo, Cond.code yX6_undo cX6_undo 2 none, Cond.methodLink RX6 249 yX6_reopenTurn, Cond.instanceMethod yX6_reopenTurn, Cond.selects RX6 yX6_reopenTurn yX6_reopenTurn, Cond.code yX6_reopenTurn cX6_reopenTurn 1 none, Cond.methodLink RX6 252 yX0_takeOff, Cond.instanceMethod yX0_takeOff, Cond.selects RX0 yX0_takeOff yX0_takeOff, Cond.code yX0_takeOff cX0_takeOff 1 (some .boolean), Cond.methodLink RX0 48 yX0_slotOf, Cond.instanceMethod yX0_slotOf, Cond.selects RX0 yX0_slotOf yX0_slotOf, Cond.code yX0_slotOf cX0_slotOf 2 (some .int), Cond.methodLink RX6 255 yX1_before, Cond.instanceMethod yX1_before, Cond.selects RX1 yX1_before yX1_before, Cond.code yX1_before cX1_before 3 (some .long), Cond.methodLink RX1 54 Lib.MathLoose.max_long.x]
def wsL_law0_r24 : List Cond := [Cond.static Lib.MathLoose.max_long.x, Cond.code Lib.MathLoose.max_long.x Lib.MathLoose.max_long.code 4 (some .long), Cond.methodLink RL 68 yX7_back, Cond.instanceMethod yX7_back, Cond.selects RX7 yX7_back yX7_back, Cond.code yX7_back cX7_back 5 (some .double), Cond.constantDouble RX7 238 (4652464705678344192), Cond.methodLink RX7 240 yX7_goesBack, Cond.instanceMethod yX7_goesBack, Cond.selects RX7 yX7_goesBack yX7_goesBack, Cond.code yX7_goesBack cX7_goesBack 4 none, Cond.methodLink RX7 232 yX7_notAbove, Cond.static yX7_notAbove, Cond.code yX7_notAbove cX7_notAbove 1 (some .int), Cond.methodLink RX7 235 yX7_unpicks, Cond.instanceMethod yX7_unpicks, Cond.selects RX7 yX7_unpicks yX7_unpicks, Cond.code yX7_unpicks cX7_unpicks 1 none, Cond.methodLink RL 69 yX6_weft, Cond.instanceMethod yX6_weft, Cond.selects RX6 yX6_weft yX6_weft, Cond.code yX6_weft cX6_weft 2 (some .boolean), Cond.methodLink RL 73 yX7_weft, Cond.instanceMethod yX7_weft]
def wsL_law0_r25 : List Cond := [Cond.selects RX7 yX7_weft yX7_weft, Cond.code yX7_weft cX7_weft 2 (some .boolean), Cond.methodLink RL 74 yX6_findPick, Cond.instanceMethod yX6_findPick, Cond.selects RX6 yX6_findPick yX6_findPick, Cond.code yX6_findPick cX6_findPick 1 (some .boolean), Cond.methodLink RL 77 yX7_findPick, Cond.instanceMethod yX7_findPick, Cond.selects RX7 yX7_findPick yX7_findPick, Cond.code yX7_findPick cX7_findPick 1 (some .boolean), Cond.methodLink RL 78 yX6_jump, Cond.instanceMethod yX6_jump, Cond.selects RX6 yX6_jump yX6_jump, Cond.code yX6_jump cX6_jump 3 (some .boolean), Cond.methodLink RX6 145 yX1_has, Cond.methodLink RL 82 yX7_jump, Cond.instanceMethod yX7_jump, Cond.selects RX7 yX7_jump yX7_jump, Cond.code yX7_jump cX7_jump 3 (some .boolean), Cond.methodLink RL 84 yX6_speed, Cond.instanceMethod yX6_speed, Cond.selects RX6 yX6_speed yX6_speed, Cond.code yX6_speed cX6_speed 2 (some .boolean), Cond.constantFloat RX6 149 (1114636288)]
def wsL_law0_r26 : List Cond := [Cond.constantFloat RX6 150 (1133903872), Cond.constantFloat RX6 151 (1090519040), Cond.methodLink RL 88 yX7_speed, Cond.instanceMethod yX7_speed, Cond.selects RX7 yX7_speed yX7_speed, Cond.code yX7_speed cX7_speed 2 (some .boolean), Cond.constantFloat RX7 243 (1114636288), Cond.constantFloat RX7 244 (1133903872), Cond.constantFloat RX7 245 (1090519040), Cond.methodLink RL 89 yX6_cut, Cond.instanceMethod yX6_cut, Cond.selects RX6 yX6_cut yX6_cut, Cond.code yX6_cut cX6_cut 2 (some .boolean), Cond.methodLink RX6 155 yX4_stand, Cond.methodLink RX6 158 yX0_forget, Cond.instanceMethod yX0_forget, Cond.selects RX0 yX0_forget yX0_forget, Cond.code yX0_forget cX0_forget 1 none, Cond.methodLink RX6 161 yX3_spoilLast, Cond.instanceMethod yX3_spoilLast, Cond.selects RX3 yX3_spoilLast yX3_spoilLast, Cond.code yX3_spoilLast cX3_spoilLast 1 none, Cond.methodLink RL 92 yX7_cut, Cond.instanceMethod yX7_cut]
def wsL_law0_r27 : List Cond := [Cond.selects RX7 yX7_cut yX7_cut, Cond.code yX7_cut cX7_cut 2 (some .boolean), Cond.methodLink RL 93 yX6_on, Cond.instanceMethod yX6_on, Cond.selects RX6 yX6_on yX6_on, Cond.code yX6_on cX6_on 1 (some .boolean), Cond.methodLink RX6 164 yX6_recall, Cond.instanceMethod yX6_recall, Cond.selects RX6 yX6_recall yX6_recall, Cond.code yX6_recall cX6_recall 5 (some .long), Cond.methodLink RX6 258 yX3_newest, Cond.instanceMethod yX3_newest, Cond.selects RX3 yX3_newest yX3_newest, Cond.code yX3_newest cX3_newest 1 (some .int), Cond.methodLink RX6 261 yX3_placeOf, Cond.instanceMethod yX3_placeOf, Cond.selects RX3 yX3_placeOf yX3_placeOf, Cond.code yX3_placeOf cX3_placeOf 2 (some .long), Cond.methodLink RX6 265 yX3_markOf, Cond.instanceMethod yX3_markOf, Cond.selects RX3 yX3_markOf yX3_markOf, Cond.code yX3_markOf cX3_markOf 2 (some .int), Cond.methodLink RL 96 yX7_on, Cond.instanceMethod yX7_on]
def wsL_law0_r28 : List Cond := [Cond.selects RX7 yX7_on yX7_on, Cond.code yX7_on cX7_on 2 (some .boolean), Cond.methodLink RL 97 yX6_angle, Cond.instanceMethod yX6_angle, Cond.selects RX6 yX6_angle yX6_angle, Cond.code yX6_angle cX6_angle 1 (some .double), Cond.methodLink RL 101 yX7_angle, Cond.instanceMethod yX7_angle, Cond.selects RX7 yX7_angle yX7_angle, Cond.code yX7_angle cX7_angle 1 (some .double), Cond.methodLink RL 102 yX6_left, Cond.instanceMethod yX6_left, Cond.selects RX6 yX6_left yX6_left, Cond.code yX6_left cX6_left 1 (some .float), Cond.constantFloat RX6 171 (1098907648), Cond.methodLink RL 106 yX7_left, Cond.instanceMethod yX7_left, Cond.selects RX7 yX7_left yX7_left, Cond.code yX7_left cX7_left 1 (some .float), Cond.constantFloat RX7 246 (1098907648), Cond.methodLink RL 107 yX6_roll, Cond.instanceMethod yX6_roll, Cond.selects RX6 yX6_roll yX6_roll, Cond.code yX6_roll cX6_roll 5 (some .double)]
def wsL_law0_r29 : List Cond := [Cond.constantDouble RX6 172 (13884597651183239168), Cond.constantDouble RX6 174 (4661225614328463360), Cond.constantLong RX6 181 (11520), Cond.constantDouble RX6 183 (4629700416936869888), Cond.methodLink RL 110 yX7_roll, Cond.instanceMethod yX7_roll, Cond.selects RX7 yX7_roll yX7_roll, Cond.code yX7_roll cX7_roll 3 (some .double), Cond.constantDouble RX7 247 (13884597651183239168), Cond.constantDouble RX7 249 (4661225614328463360), Cond.constantLong RX7 251 (11520), Cond.constantDouble RX7 253 (4629700416936869888), Cond.methodLink RL 111 yX6_letOff, Cond.instanceMethod yX6_letOff, Cond.selects RX6 yX6_letOff yX6_letOff, Cond.code yX6_letOff cX6_letOff 4 (some .int), Cond.constantFloat RX6 185 (3463342888), Cond.constantFloat RX6 186 (1315859240), Cond.constantLong RX6 187 (100), Cond.methodLink RL 115 yX7_letOff, Cond.instanceMethod yX7_letOff, Cond.selects RX7 yX7_letOff yX7_letOff, Cond.code yX7_letOff cX7_letOff 2 (some .int), Cond.constantFloat RX7 255 (3463342888)]
def wsL_law0_r30 : List Cond := [Cond.constantFloat RX7 256 (1315859240), Cond.constantLong RX7 257 (100), Cond.methodLink RL 116 yX6_state, Cond.instanceMethod yX6_state, Cond.selects RX6 yX6_state yX6_state, Cond.code yX6_state cX6_state 2 (some .int), Cond.constantLong RX6 192 (4), Cond.methodLink RX6 194 yJ9_floorDiv_f86c9, Cond.static yJ9_floorDiv_f86c9, Cond.code yJ9_floorDiv_f86c9 cJ9_floorDiv_f86c9 6 (some .long), Cond.methodLink RL 120 yX7_state, Cond.instanceMethod yX7_state, Cond.selects RX7 yX7_state yX7_state, Cond.code yX7_state cX7_state 2 (some .int), Cond.constantLong RX7 259 (4), Cond.methodLink RL 121 yX6_count, Cond.instanceMethod yX6_count, Cond.selects RX6 yX6_count yX6_count, Cond.code yX6_count cX6_count 2 (some .long), Cond.constantLong RX6 206 (-1), Cond.methodLink RL 125 yX7_count, Cond.instanceMethod yX7_count, Cond.selects RX7 yX7_count yX7_count, Cond.code yX7_count cX7_count 2 (some .long)]
def wsL_law0_r31 : List Cond := [Cond.constantLong RX7 261 (-1), Cond.methodLink RL 126 yX6_cloth, Cond.instanceMethod yX6_cloth, Cond.selects RX6 yX6_cloth yX6_cloth, Cond.code yX6_cloth cX6_cloth 3 (some .int), Cond.methodLink RX6 208 yX0_tell, Cond.instanceMethod yX0_tell, Cond.selects RX0 yX0_tell yX0_tell, Cond.code yX0_tell cX0_tell 4 (some .int), Cond.methodLink RL 130 yX7_cloth, Cond.instanceMethod yX7_cloth, Cond.selects RX7 yX7_cloth yX7_cloth, Cond.code yX7_cloth cX7_cloth 4 (some .int)]
def wsL_law0 : List Cond := (wsL_law0_r1 ++ (wsL_law0_r2 ++ (wsL_law0_r3 ++ (wsL_law0_r4 ++ (wsL_law0_r5 ++ (wsL_law0_r6 ++ (wsL_law0_r7 ++ (wsL_law0_r8 ++ (wsL_law0_r9 ++ (wsL_law0_r10 ++ (wsL_law0_r11 ++ (wsL_law0_r12 ++ (wsL_law0_r13 ++ (wsL_law0_r14 ++ (wsL_law0_r15 ++ (wsL_law0_r16 ++ (wsL_law0_r17 ++ (wsL_law0_r18 ++ (wsL_law0_r19 ++ (wsL_law0_r20 ++ (wsL_law0_r21 ++ (wsL_law0_r22 ++ (wsL_law0_r23 ++ (wsL_law0_r24 ++ (wsL_law0_r25 ++ (wsL_law0_r26 ++ (wsL_law0_r27 ++ (wsL_law0_r28 ++ (wsL_law0_r29 ++ (wsL_law0_r30 ++ wsL_law0_r31)))))))))))))))))))))))))))))) ++ wsX60 ++ wsX70 ++ wsX20 ++ wsX40 ++ wsX00 ++ wsX30 ++ wsX10 ++ wsX50 ++ ([] : List Cond)
abbrev vwCl : List vw_C := [(RX0, TX0, 7), (RX1, TX1, 11), (RX2, TX2, 9), (RX3, TX3, 3), (RX4, TX4, 6), (RX5, TX5, 2), (RX6, TX6, 12), (RX7, TX7, 44)]
end
section
theorem dX0_init_0 : decode cX0_init 0 = .ok (.aload_n 0, 1) := by decide +kernel
theorem dX0_init_1 : decode cX0_init 1 = .ok (.invokespecial 3, 3) := by decide +kernel
theorem dX0_init_4 : decode cX0_init 4 = .ok (.aload_n 0, 1) := by decide +kernel
theorem dX0_init_5 : decode cX0_init 5 = .ok (.bipush 64, 2) := by decide +kernel
theorem dX0_init_7 : decode cX0_init 7 = .ok (.newarray .int, 2) := by decide +kernel
theorem dX0_init_9 : decode cX0_init 9 = .ok (.putfield 11, 3) := by decide +kernel
theorem dX0_init_12 : decode cX0_init 12 = .ok (.aload_n 0, 1) := by decide +kernel
theorem dX0_init_13 : decode cX0_init 13 = .ok (.bipush 64, 2) := by decide +kernel
theorem dX0_init_15 : decode cX0_init 15 = .ok (.newarray .int, 2) := by decide +kernel
theorem dX0_init_17 : decode cX0_init 17 = .ok (.putfield 15, 3) := by decide +kernel
theorem dX0_init_20 : decode cX0_init 20 = .ok (.aload_n 0, 1) := by decide +kernel
theorem dX0_init_21 : decode cX0_init 21 = .ok (.bipush 64, 2) := by decide +kernel
theorem dX0_init_23 : decode cX0_init 23 = .ok (.newarray .int, 2) := by decide +kernel
theorem dX0_init_25 : decode cX0_init 25 = .ok (.putfield 18, 3) := by decide +kernel
theorem dX0_init_28 : decode cX0_init 28 = .ok (.aload_n 0, 1) := by decide +kernel
theorem dX0_init_29 : decode cX0_init 29 = .ok (.iconst 0, 1) := by decide +kernel
theorem dX0_init_30 : decode cX0_init 30 = .ok (.putfield 21, 3) := by decide +kernel
theorem dX0_init_33 : decode cX0_init 33 = .ok (.aload_n 0, 1) := by decide +kernel
theorem dX0_init_34 : decode cX0_init 34 = .ok (.iconst 0, 1) := by decide +kernel
theorem dX0_init_35 : decode cX0_init 35 = .ok (.putfield 25, 3) := by decide +kernel
theorem dX0_init_38 : decode cX0_init 38 = .ok (.aload_n 0, 1) := by decide +kernel
theorem dX0_init_39 : decode cX0_init 39 = .ok (.lconst 0, 1) := by decide +kernel
theorem dX0_init_40 : decode cX0_init 40 = .ok (.putfield 28, 3) := by decide +kernel
theorem dX0_init_43 : decode cX0_init 43 = .ok (.aload_n 0, 1) := by decide +kernel
theorem dX0_init_44 : decode cX0_init 44 = .ok (.lconst 0, 1) := by decide +kernel
theorem dX0_init_45 : decode cX0_init 45 = .ok (.putfield 32, 3) := by decide +kernel
theorem dX0_init_48 : decode cX0_init 48 = .ok (.return_, 1) := by decide +kernel
set_option maxRecDepth 20000 in
theorem ggX0_beatUp_J9_floorMod_7cf53 : GoodIn wsX0_beatUp wsJ9_floorMod_7cf53 := goodIn_r _ [15] (by decide +kernel) (by decide +kernel)
set_option maxRecDepth 20000 in
theorem gX0_beatUp_J9_floorMod_7cf53 : GoodIn wsX0_beatUp (va_wsS RX0 35 yJ9_floorMod_7cf53 wsJ9_floorMod_7cf53) := goodIn_app (goodIn_of _ (by decide +kernel)) ggX0_beatUp_J9_floorMod_7cf53
set_option maxRecDepth 20000 in
theorem ggX0_beatUp_X0_quarters : GoodIn wsX0_beatUp wsX0_quarters := goodIn_r _ [19] (by decide +kernel) (by decide +kernel)
set_option maxRecDepth 20000 in
theorem gX0_beatUp_X0_quarters : GoodIn wsX0_beatUp (va_wsS RX0 44 yX0_quarters wsX0_quarters) := goodIn_app (goodIn_of _ (by decide +kernel)) ggX0_beatUp_X0_quarters
theorem dX0_beatUp_0 : decode cX0_beatUp 0 = .ok (.aload_n 0, 1) := by decide +kernel
theorem dX0_beatUp_1 : decode cX0_beatUp 1 = .ok (.getfield 21, 3) := by decide +kernel
theorem dX0_beatUp_4 : decode cX0_beatUp 4 = .ok (.bipush 64, 2) := by decide +kernel
theorem dX0_beatUp_6 : decode cX0_beatUp 6 = .ok (.invokestatic 35, 3) := by decide +kernel
theorem dX0_beatUp_9 : decode cX0_beatUp 9 = .ok (.istore 4, 2) := by decide +kernel
theorem dX0_beatUp_11 : decode cX0_beatUp 11 = .ok (.aload_n 0, 1) := by decide +kernel
theorem dX0_beatUp_12 : decode cX0_beatUp 12 = .ok (.getfield 11, 3) := by decide +kernel
theorem dX0_beatUp_15 : decode cX0_beatUp 15 = .ok (.iload 4, 2) := by decide +kernel
theorem dX0_beatUp_17 : decode cX0_beatUp 17 = .ok (.iload_n 1, 1) := by decide +kernel
theorem dX0_beatUp_18 : decode cX0_beatUp 18 = .ok (.iastore, 1) := by decide +kernel
theorem dX0_beatUp_19 : decode cX0_beatUp 19 = .ok (.aload_n 0, 1) := by decide +kernel
theorem dX0_beatUp_20 : decode cX0_beatUp 20 = .ok (.getfield 15, 3) := by decide +kernel
theorem dX0_beatUp_23 : decode cX0_beatUp 23 = .ok (.iload 4, 2) := by decide +kernel
theorem dX0_beatUp_25 : decode cX0_beatUp 25 = .ok (.iload_n 2, 1) := by decide +kernel
theorem dX0_beatUp_26 : decode cX0_beatUp 26 = .ok (.iastore, 1) := by decide +kernel
theorem dX0_beatUp_27 : decode cX0_beatUp 27 = .ok (.aload_n 0, 1) := by decide +kernel
theorem dX0_beatUp_28 : decode cX0_beatUp 28 = .ok (.getfield 18, 3) := by decide +kernel
theorem dX0_beatUp_31 : decode cX0_beatUp 31 = .ok (.iload 4, 2) := by decide +kernel
theorem dX0_beatUp_33 : decode cX0_beatUp 33 = .ok (.iload_n 3, 1) := by decide +kernel
theorem dX0_beatUp_34 : decode cX0_beatUp 34 = .ok (.iastore, 1) := by decide +kernel
theorem dX0_beatUp_35 : decode cX0_beatUp 35 = .ok (.aload_n 0, 1) := by decide +kernel
theorem dX0_beatUp_36 : decode cX0_beatUp 36 = .ok (.iload 4, 2) := by decide +kernel
theorem dX0_beatUp_38 : decode cX0_beatUp 38 = .ok (.iconst 1, 1) := by decide +kernel
theorem dX0_beatUp_39 : decode cX0_beatUp 39 = .ok (.iadd, 1) := by decide +kernel
theorem dX0_beatUp_40 : decode cX0_beatUp 40 = .ok (.bipush 64, 2) := by decide +kernel
theorem dX0_beatUp_42 : decode cX0_beatUp 42 = .ok (.invokestatic 35, 3) := by decide +kernel
theorem dX0_beatUp_45 : decode cX0_beatUp 45 = .ok (.putfield 21, 3) := by decide +kernel
theorem dX0_beatUp_48 : decode cX0_beatUp 48 = .ok (.aload_n 0, 1) := by decide +kernel
theorem dX0_beatUp_49 : decode cX0_beatUp 49 = .ok (.aload_n 0, 1) := by decide +kernel
theorem dX0_beatUp_50 : decode cX0_beatUp 50 = .ok (.getfield 25, 3) := by decide +kernel
theorem dX0_beatUp_53 : decode cX0_beatUp 53 = .ok (.iconst 1, 1) := by decide +kernel
theorem dX0_beatUp_54 : decode cX0_beatUp 54 = .ok (.iadd, 1) := by decide +kernel
theorem dX0_beatUp_55 : decode cX0_beatUp 55 = .ok (.bipush 64, 2) := by decide +kernel
theorem dX0_beatUp_57 : decode cX0_beatUp 57 = .ok (.invokestatic 41, 3) := by decide +kernel
theorem dX0_beatUp_60 : decode cX0_beatUp 60 = .ok (.putfield 25, 3) := by decide +kernel
theorem dX0_beatUp_63 : decode cX0_beatUp 63 = .ok (.aload_n 0, 1) := by decide +kernel
theorem dX0_beatUp_64 : decode cX0_beatUp 64 = .ok (.dup, 1) := by decide +kernel
theorem dX0_beatUp_65 : decode cX0_beatUp 65 = .ok (.getfield 28, 3) := by decide +kernel
theorem dX0_beatUp_68 : decode cX0_beatUp 68 = .ok (.lconst 1, 1) := by decide +kernel
theorem dX0_beatUp_69 : decode cX0_beatUp 69 = .ok (.ladd, 1) := by decide +kernel
theorem dX0_beatUp_70 : decode cX0_beatUp 70 = .ok (.putfield 28, 3) := by decide +kernel
theorem dX0_beatUp_73 : decode cX0_beatUp 73 = .ok (.aload_n 0, 1) := by decide +kernel
theorem dX0_beatUp_74 : decode cX0_beatUp 74 = .ok (.dup, 1) := by decide +kernel
theorem dX0_beatUp_75 : decode cX0_beatUp 75 = .ok (.getfield 32, 3) := by decide +kernel
theorem dX0_beatUp_78 : decode cX0_beatUp 78 = .ok (.iload_n 3, 1) := by decide +kernel
theorem dX0_beatUp_79 : decode cX0_beatUp 79 = .ok (.invokestatic 44, 3) := by decide +kernel
theorem dX0_beatUp_82 : decode cX0_beatUp 82 = .ok (.i2l, 1) := by decide +kernel
theorem dX0_beatUp_83 : decode cX0_beatUp 83 = .ok (.ladd, 1) := by decide +kernel
theorem dX0_beatUp_84 : decode cX0_beatUp 84 = .ok (.putfield 32, 3) := by decide +kernel
theorem dX0_beatUp_87 : decode cX0_beatUp 87 = .ok (.return_, 1) := by decide +kernel
set_option maxRecDepth 20000 in
theorem ggX0_takeOff_X0_slotOf : GoodIn wsX0_takeOff wsX0_slotOf := goodIn_r _ [10, 2, 11, 12, 13, 14, 18, 19, 20, 21, 22, 23, 24] (by decide +kernel) (by decide +kernel)
set_option maxRecDepth 20000 in
theorem gX0_takeOff_X0_slotOf : GoodIn wsX0_takeOff (wsV RX0 48 RX0 yX0_slotOf wsX0_slotOf) := goodIn_app (goodIn_of _ (by decide +kernel)) ggX0_takeOff_X0_slotOf
set_option maxRecDepth 20000 in
theorem ggX0_takeOff_X0_quarters : GoodIn wsX0_takeOff wsX0_quarters := goodIn_r _ [17] (by decide +kernel) (by decide +kernel)
set_option maxRecDepth 20000 in
theorem gX0_takeOff_X0_quarters : GoodIn wsX0_takeOff (va_wsS RX0 44 yX0_quarters wsX0_quarters) := goodIn_app (goodIn_of _ (by decide +kernel)) ggX0_takeOff_X0_quarters
theorem dX0_takeOff_0 : decode cX0_takeOff 0 = .ok (.aload_n 0, 1) := by decide +kernel
theorem dX0_takeOff_1 : decode cX0_takeOff 1 = .ok (.getfield 25, 3) := by decide +kernel
theorem dX0_takeOff_4 : decode cX0_takeOff 4 = .ok (.ifCond .gt 5, 3) := by decide +kernel
theorem dX0_takeOff_7 : decode cX0_takeOff 7 = .ok (.iconst 0, 1) := by decide +kernel
theorem dX0_takeOff_8 : decode cX0_takeOff 8 = .ok (.ireturn, 1) := by decide +kernel
theorem dX0_takeOff_9 : decode cX0_takeOff 9 = .ok (.aload_n 0, 1) := by decide +kernel
theorem dX0_takeOff_10 : decode cX0_takeOff 10 = .ok (.aload_n 0, 1) := by decide +kernel
theorem dX0_takeOff_11 : decode cX0_takeOff 11 = .ok (.iconst 0, 1) := by decide +kernel
theorem dX0_takeOff_12 : decode cX0_takeOff 12 = .ok (.invokevirtual 48, 3) := by decide +kernel
theorem dX0_takeOff_15 : decode cX0_takeOff 15 = .ok (.putfield 21, 3) := by decide +kernel
theorem dX0_takeOff_18 : decode cX0_takeOff 18 = .ok (.aload_n 0, 1) := by decide +kernel
theorem dX0_takeOff_19 : decode cX0_takeOff 19 = .ok (.dup, 1) := by decide +kernel
theorem dX0_takeOff_20 : decode cX0_takeOff 20 = .ok (.getfield 25, 3) := by decide +kernel
theorem dX0_takeOff_23 : decode cX0_takeOff 23 = .ok (.iconst 1, 1) := by decide +kernel
theorem dX0_takeOff_24 : decode cX0_takeOff 24 = .ok (.isub, 1) := by decide +kernel
theorem dX0_takeOff_25 : decode cX0_takeOff 25 = .ok (.putfield 25, 3) := by decide +kernel
theorem dX0_takeOff_28 : decode cX0_takeOff 28 = .ok (.aload_n 0, 1) := by decide +kernel
theorem dX0_takeOff_29 : decode cX0_takeOff 29 = .ok (.dup, 1) := by decide +kernel
theorem dX0_takeOff_30 : decode cX0_takeOff 30 = .ok (.getfield 28, 3) := by decide +kernel
theorem dX0_takeOff_33 : decode cX0_takeOff 33 = .ok (.lconst 1, 1) := by decide +kernel
theorem dX0_takeOff_34 : decode cX0_takeOff 34 = .ok (.lsub, 1) := by decide +kernel
theorem dX0_takeOff_35 : decode cX0_takeOff 35 = .ok (.putfield 28, 3) := by decide +kernel
theorem dX0_takeOff_38 : decode cX0_takeOff 38 = .ok (.aload_n 0, 1) := by decide +kernel
theorem dX0_takeOff_39 : decode cX0_takeOff 39 = .ok (.dup, 1) := by decide +kernel
theorem dX0_takeOff_40 : decode cX0_takeOff 40 = .ok (.getfield 32, 3) := by decide +kernel
theorem dX0_takeOff_43 : decode cX0_takeOff 43 = .ok (.aload_n 0, 1) := by decide +kernel
theorem dX0_takeOff_44 : decode cX0_takeOff 44 = .ok (.getfield 18, 3) := by decide +kernel
theorem dX0_takeOff_47 : decode cX0_takeOff 47 = .ok (.aload_n 0, 1) := by decide +kernel
theorem dX0_takeOff_48 : decode cX0_takeOff 48 = .ok (.getfield 21, 3) := by decide +kernel
theorem dX0_takeOff_51 : decode cX0_takeOff 51 = .ok (.iaload, 1) := by decide +kernel
theorem dX0_takeOff_52 : decode cX0_takeOff 52 = .ok (.invokestatic 44, 3) := by decide +kernel
theorem dX0_takeOff_55 : decode cX0_takeOff 55 = .ok (.i2l, 1) := by decide +kernel
theorem dX0_takeOff_56 : decode cX0_takeOff 56 = .ok (.lsub, 1) := by decide +kernel
theorem dX0_takeOff_57 : decode cX0_takeOff 57 = .ok (.putfield 32, 3) := by decide +kernel
theorem dX0_takeOff_60 : decode cX0_takeOff 60 = .ok (.iconst 1, 1) := by decide +kernel
theorem dX0_takeOff_61 : decode cX0_takeOff 61 = .ok (.ireturn, 1) := by decide +kernel
theorem dX0_forget_0 : decode cX0_forget 0 = .ok (.aload_n 0, 1) := by decide +kernel
theorem dX0_forget_1 : decode cX0_forget 1 = .ok (.iconst 0, 1) := by decide +kernel
theorem dX0_forget_2 : decode cX0_forget 2 = .ok (.putfield 25, 3) := by decide +kernel
theorem dX0_forget_5 : decode cX0_forget 5 = .ok (.return_, 1) := by decide +kernel
set_option maxRecDepth 20000 in
theorem ggX0_tell_X0_slotOf : GoodIn wsX0_tell wsX0_slotOf := goodIn_r _ [9, 10, 11, 12, 13, 14, 15, 16, 17, 18, 19, 20, 21] (by decide +kernel) (by decide +kernel)
set_option maxRecDepth 20000 in
theorem gX0_tell_X0_slotOf : GoodIn wsX0_tell (wsV RX0 48 RX0 yX0_slotOf wsX0_slotOf) := goodIn_app (goodIn_of _ (by decide +kernel)) ggX0_tell_X0_slotOf
theorem dX0_tell_0 : decode cX0_tell 0 = .ok (.iload_n 1, 1) := by decide +kernel
theorem dX0_tell_1 : decode cX0_tell 1 = .ok (.ifCond .lt 11, 3) := by decide +kernel
theorem dX0_tell_4 : decode cX0_tell 4 = .ok (.iload_n 1, 1) := by decide +kernel
theorem dX0_tell_5 : decode cX0_tell 5 = .ok (.aload_n 0, 1) := by decide +kernel
theorem dX0_tell_6 : decode cX0_tell 6 = .ok (.getfield 25, 3) := by decide +kernel
theorem dX0_tell_9 : decode cX0_tell 9 = .ok (.if_icmp .lt 5, 3) := by decide +kernel
theorem dX0_tell_12 : decode cX0_tell 12 = .ok (.iconst (-1), 1) := by decide +kernel
theorem dX0_tell_13 : decode cX0_tell 13 = .ok (.ireturn, 1) := by decide +kernel
theorem dX0_tell_14 : decode cX0_tell 14 = .ok (.aload_n 0, 1) := by decide +kernel
theorem dX0_tell_15 : decode cX0_tell 15 = .ok (.iload_n 1, 1) := by decide +kernel
theorem dX0_tell_16 : decode cX0_tell 16 = .ok (.invokevirtual 48, 3) := by decide +kernel
theorem dX0_tell_19 : decode cX0_tell 19 = .ok (.istore_n 3, 1) := by decide +kernel
theorem dX0_tell_20 : decode cX0_tell 20 = .ok (.iload_n 2, 1) := by decide +kernel
theorem dX0_tell_21 : decode cX0_tell 21 = .ok (.tableswitch 48 0 2 #[27, 34, 41], 27) := by decide +kernel
theorem dX0_tell_48 : decode cX0_tell 48 = .ok (.aload_n 0, 1) := by decide +kernel
theorem dX0_tell_49 : decode cX0_tell 49 = .ok (.getfield 11, 3) := by decide +kernel
theorem dX0_tell_52 : decode cX0_tell 52 = .ok (.iload_n 3, 1) := by decide +kernel
theorem dX0_tell_53 : decode cX0_tell 53 = .ok (.iaload, 1) := by decide +kernel
theorem dX0_tell_54 : decode cX0_tell 54 = .ok (.ireturn, 1) := by decide +kernel
theorem dX0_tell_55 : decode cX0_tell 55 = .ok (.aload_n 0, 1) := by decide +kernel
theorem dX0_tell_56 : decode cX0_tell 56 = .ok (.getfield 15, 3) := by decide +kernel
theorem dX0_tell_59 : decode cX0_tell 59 = .ok (.iload_n 3, 1) := by decide +kernel
theorem dX0_tell_60 : decode cX0_tell 60 = .ok (.iaload, 1) := by decide +kernel
theorem dX0_tell_61 : decode cX0_tell 61 = .ok (.ireturn, 1) := by decide +kernel
theorem dX0_tell_62 : decode cX0_tell 62 = .ok (.aload_n 0, 1) := by decide +kernel
theorem dX0_tell_63 : decode cX0_tell 63 = .ok (.getfield 18, 3) := by decide +kernel
theorem dX0_tell_66 : decode cX0_tell 66 = .ok (.iload_n 3, 1) := by decide +kernel
theorem dX0_tell_67 : decode cX0_tell 67 = .ok (.iaload, 1) := by decide +kernel
theorem dX0_tell_68 : decode cX0_tell 68 = .ok (.ireturn, 1) := by decide +kernel
theorem dX0_tell_69 : decode cX0_tell 69 = .ok (.iconst (-1), 1) := by decide +kernel
theorem dX0_tell_70 : decode cX0_tell 70 = .ok (.ireturn, 1) := by decide +kernel
set_option maxRecDepth 20000 in
theorem ggX0_slotOf_J9_floorMod_7cf53 : GoodIn wsX0_slotOf wsJ9_floorMod_7cf53 := goodIn_r _ [5] (by decide +kernel) (by decide +kernel)
set_option maxRecDepth 20000 in
theorem gX0_slotOf_J9_floorMod_7cf53 : GoodIn wsX0_slotOf (va_wsS RX0 35 yJ9_floorMod_7cf53 wsJ9_floorMod_7cf53) := goodIn_app (goodIn_of _ (by decide +kernel)) ggX0_slotOf_J9_floorMod_7cf53
theorem dX0_slotOf_0 : decode cX0_slotOf 0 = .ok (.aload_n 0, 1) := by decide +kernel
theorem dX0_slotOf_1 : decode cX0_slotOf 1 = .ok (.getfield 21, 3) := by decide +kernel
theorem dX0_slotOf_4 : decode cX0_slotOf 4 = .ok (.iconst 1, 1) := by decide +kernel
theorem dX0_slotOf_5 : decode cX0_slotOf 5 = .ok (.isub, 1) := by decide +kernel
theorem dX0_slotOf_6 : decode cX0_slotOf 6 = .ok (.iload_n 1, 1) := by decide +kernel
theorem dX0_slotOf_7 : decode cX0_slotOf 7 = .ok (.isub, 1) := by decide +kernel
theorem dX0_slotOf_8 : decode cX0_slotOf 8 = .ok (.bipush 64, 2) := by decide +kernel
theorem dX0_slotOf_10 : decode cX0_slotOf 10 = .ok (.invokestatic 35, 3) := by decide +kernel
theorem dX0_slotOf_13 : decode cX0_slotOf 13 = .ok (.ireturn, 1) := by decide +kernel
theorem dX0_quarters_0 : decode cX0_quarters 0 = .ok (.iload_n 0, 1) := by decide +kernel
theorem dX0_quarters_1 : decode cX0_quarters 1 = .ok (.ifCond .le 11, 3) := by decide +kernel
theorem dX0_quarters_4 : decode cX0_quarters 4 = .ok (.sipush 4000, 3) := by decide +kernel
theorem dX0_quarters_7 : decode cX0_quarters 7 = .ok (.iload_n 0, 1) := by decide +kernel
theorem dX0_quarters_8 : decode cX0_quarters 8 = .ok (.idiv, 1) := by decide +kernel
theorem dX0_quarters_9 : decode cX0_quarters 9 = .ok (.goto 4, 3) := by decide +kernel
theorem dX0_quarters_12 : decode cX0_quarters 12 = .ok (.iconst 0, 1) := by decide +kernel
theorem dX0_quarters_13 : decode cX0_quarters 13 = .ok (.ireturn, 1) := by decide +kernel
theorem dX1_init_0 : decode cX1_init 0 = .ok (.aload_n 0, 1) := by decide +kernel
theorem dX1_init_1 : decode cX1_init 1 = .ok (.invokespecial 5, 3) := by decide +kernel
theorem dX1_init_4 : decode cX1_init 4 = .ok (.aload_n 0, 1) := by decide +kernel
theorem dX1_init_5 : decode cX1_init 5 = .ok (.bipush 80, 2) := by decide +kernel
theorem dX1_init_7 : decode cX1_init 7 = .ok (.newarray .int, 2) := by decide +kernel
theorem dX1_init_9 : decode cX1_init 9 = .ok (.putfield 13, 3) := by decide +kernel
theorem dX1_init_12 : decode cX1_init 12 = .ok (.aload_n 0, 1) := by decide +kernel
theorem dX1_init_13 : decode cX1_init 13 = .ok (.bipush 80, 2) := by decide +kernel
theorem dX1_init_15 : decode cX1_init 15 = .ok (.newarray .int, 2) := by decide +kernel
theorem dX1_init_17 : decode cX1_init 17 = .ok (.putfield 17, 3) := by decide +kernel
theorem dX1_init_20 : decode cX1_init 20 = .ok (.aload_n 0, 1) := by decide +kernel
theorem dX1_init_21 : decode cX1_init 21 = .ok (.bipush 80, 2) := by decide +kernel
theorem dX1_init_23 : decode cX1_init 23 = .ok (.newarray .int, 2) := by decide +kernel
theorem dX1_init_25 : decode cX1_init 25 = .ok (.putfield 20, 3) := by decide +kernel
theorem dX1_init_28 : decode cX1_init 28 = .ok (.aload_n 0, 1) := by decide +kernel
theorem dX1_init_29 : decode cX1_init 29 = .ok (.bipush 80, 2) := by decide +kernel
theorem dX1_init_31 : decode cX1_init 31 = .ok (.newarray .long, 2) := by decide +kernel
theorem dX1_init_33 : decode cX1_init 33 = .ok (.putfield 23, 3) := by decide +kernel
theorem dX1_init_36 : decode cX1_init 36 = .ok (.aload_n 0, 1) := by decide +kernel
theorem dX1_init_37 : decode cX1_init 37 = .ok (.bipush 80, 2) := by decide +kernel
theorem dX1_init_39 : decode cX1_init 39 = .ok (.newarray .int, 2) := by decide +kernel
theorem dX1_init_41 : decode cX1_init 41 = .ok (.putfield 27, 3) := by decide +kernel
theorem dX1_init_44 : decode cX1_init 44 = .ok (.aload_n 0, 1) := by decide +kernel
theorem dX1_init_45 : decode cX1_init 45 = .ok (.bipush 80, 2) := by decide +kernel
theorem dX1_init_47 : decode cX1_init 47 = .ok (.newarray .int, 2) := by decide +kernel
theorem dX1_init_49 : decode cX1_init 49 = .ok (.putfield 30, 3) := by decide +kernel
theorem dX1_init_52 : decode cX1_init 52 = .ok (.aload_n 0, 1) := by decide +kernel
theorem dX1_init_53 : decode cX1_init 53 = .ok (.iconst 0, 1) := by decide +kernel
theorem dX1_init_54 : decode cX1_init 54 = .ok (.putfield 33, 3) := by decide +kernel
theorem dX1_init_57 : decode cX1_init 57 = .ok (.aload_n 0, 1) := by decide +kernel
theorem dX1_init_58 : decode cX1_init 58 = .ok (.lconst 0, 1) := by decide +kernel
theorem dX1_init_59 : decode cX1_init 59 = .ok (.putfield 37, 3) := by decide +kernel
theorem dX1_init_62 : decode cX1_init 62 = .ok (.aload_n 0, 1) := by decide +kernel
theorem dX1_init_63 : decode cX1_init 63 = .ok (.lconst 0, 1) := by decide +kernel
theorem dX1_init_64 : decode cX1_init 64 = .ok (.putfield 41, 3) := by decide +kernel
theorem dX1_init_67 : decode cX1_init 67 = .ok (.aload_n 0, 1) := by decide +kernel
theorem dX1_init_68 : decode cX1_init 68 = .ok (.iconst 0, 1) := by decide +kernel
theorem dX1_init_69 : decode cX1_init 69 = .ok (.putfield 44, 3) := by decide +kernel
theorem dX1_init_72 : decode cX1_init 72 = .ok (.aload_n 0, 1) := by decide +kernel
theorem dX1_init_73 : decode cX1_init 73 = .ok (.iconst 0, 1) := by decide +kernel
theorem dX1_init_74 : decode cX1_init 74 = .ok (.putfield 47, 3) := by decide +kernel
theorem dX1_init_77 : decode cX1_init 77 = .ok (.return_, 1) := by decide +kernel
theorem dX1_has_0 : decode cX1_has 0 = .ok (.lload_n 1, 1) := by decide +kernel
theorem dX1_has_1 : decode cX1_has 1 = .ok (.lconst 0, 1) := by decide +kernel
theorem dX1_has_2 : decode cX1_has 2 = .ok (.lcmp, 1) := by decide +kernel
theorem dX1_has_3 : decode cX1_has 3 = .ok (.ifCond .lt 16, 3) := by decide +kernel
theorem dX1_has_6 : decode cX1_has 6 = .ok (.lload_n 1, 1) := by decide +kernel
theorem dX1_has_7 : decode cX1_has 7 = .ok (.aload_n 0, 1) := by decide +kernel
theorem dX1_has_8 : decode cX1_has 8 = .ok (.getfield 37, 3) := by decide +kernel
theorem dX1_has_11 : decode cX1_has 11 = .ok (.lcmp, 1) := by decide +kernel
theorem dX1_has_12 : decode cX1_has 12 = .ok (.ifCond .ge 7, 3) := by decide +kernel
theorem dX1_has_15 : decode cX1_has 15 = .ok (.iconst 1, 1) := by decide +kernel
theorem dX1_has_16 : decode cX1_has 16 = .ok (.goto 4, 3) := by decide +kernel
theorem dX1_has_19 : decode cX1_has 19 = .ok (.iconst 0, 1) := by decide +kernel
theorem dX1_has_20 : decode cX1_has 20 = .ok (.ireturn, 1) := by decide +kernel
set_option maxRecDepth 20000 in
theorem ggX1_behind_X1_has : GoodIn wsX1_behind wsX1_has := goodIn_r _ [5, 6, 7, 8, 9, 10, 11, 12, 13, 14, 15, 16, 17] (by decide +kernel) (by decide +kernel)
set_option maxRecDepth 20000 in
theorem gX1_behind_X1_has : GoodIn wsX1_behind (wsV RX1 50 RX1 yX1_has wsX1_has) := goodIn_app (goodIn_of _ (by decide +kernel)) ggX1_behind_X1_has
theorem dX1_behind_0 : decode cX1_behind 0 = .ok (.aload_n 0, 1) := by decide +kernel
theorem dX1_behind_1 : decode cX1_behind 1 = .ok (.lload_n 1, 1) := by decide +kernel
theorem dX1_behind_2 : decode cX1_behind 2 = .ok (.lconst 1, 1) := by decide +kernel
theorem dX1_behind_3 : decode cX1_behind 3 = .ok (.ladd, 1) := by decide +kernel
theorem dX1_behind_4 : decode cX1_behind 4 = .ok (.invokevirtual 50, 3) := by decide +kernel
theorem dX1_behind_7 : decode cX1_behind 7 = .ok (.ifCond .eq 9, 3) := by decide +kernel
theorem dX1_behind_10 : decode cX1_behind 10 = .ok (.lload_n 1, 1) := by decide +kernel
theorem dX1_behind_11 : decode cX1_behind 11 = .ok (.lconst 1, 1) := by decide +kernel
theorem dX1_behind_12 : decode cX1_behind 12 = .ok (.ladd, 1) := by decide +kernel
theorem dX1_behind_13 : decode cX1_behind 13 = .ok (.goto 4, 3) := by decide +kernel
theorem dX1_behind_16 : decode cX1_behind 16 = .ok (.lconst 0, 1) := by decide +kernel
theorem dX1_behind_17 : decode cX1_behind 17 = .ok (.lreturn, 1) := by decide +kernel
set_option maxRecDepth 20000 in
theorem ggX1_before_X1_has : GoodIn wsX1_before wsX1_has := goodIn_r _ [10, 1, 11, 12, 13, 14, 15, 16, 17, 18, 19, 20, 21] (by decide +kernel) (by decide +kernel)
set_option maxRecDepth 20000 in
theorem gX1_before_X1_has : GoodIn wsX1_before (wsV RX1 50 RX1 yX1_has wsX1_has) := goodIn_app (goodIn_of _ (by decide +kernel)) ggX1_before_X1_has
theorem dX1_before_0 : decode cX1_before 0 = .ok (.aload_n 0, 1) := by decide +kernel
theorem dX1_before_1 : decode cX1_before 1 = .ok (.lload_n 1, 1) := by decide +kernel
theorem dX1_before_2 : decode cX1_before 2 = .ok (.lconst 1, 1) := by decide +kernel
theorem dX1_before_3 : decode cX1_before 3 = .ok (.lsub, 1) := by decide +kernel
theorem dX1_before_4 : decode cX1_before 4 = .ok (.invokevirtual 50, 3) := by decide +kernel
theorem dX1_before_7 : decode cX1_before 7 = .ok (.ifCond .eq 9, 3) := by decide +kernel
theorem dX1_before_10 : decode cX1_before 10 = .ok (.lload_n 1, 1) := by decide +kernel
theorem dX1_before_11 : decode cX1_before 11 = .ok (.lconst 1, 1) := by decide +kernel
theorem dX1_before_12 : decode cX1_before 12 = .ok (.lsub, 1) := by decide +kernel
theorem dX1_before_13 : decode cX1_before 13 = .ok (.goto 13, 3) := by decide +kernel
theorem dX1_before_16 : decode cX1_before 16 = .ok (.aload_n 0, 1) := by decide +kernel
theorem dX1_before_17 : decode cX1_before 17 = .ok (.getfield 37, 3) := by decide +kernel
theorem dX1_before_20 : decode cX1_before 20 = .ok (.lconst 1, 1) := by decide +kernel
theorem dX1_before_21 : decode cX1_before 21 = .ok (.lsub, 1) := by decide +kernel
theorem dX1_before_22 : decode cX1_before 22 = .ok (.lconst 0, 1) := by decide +kernel
theorem dX1_before_23 : decode cX1_before 23 = .ok (.invokestatic 54, 3) := by decide +kernel
theorem dX1_before_26 : decode cX1_before 26 = .ok (.lreturn, 1) := by decide +kernel
theorem dX1_clear_0 : decode cX1_clear 0 = .ok (.aload_n 0, 1) := by decide +kernel
theorem dX1_clear_1 : decode cX1_clear 1 = .ok (.iconst 0, 1) := by decide +kernel
theorem dX1_clear_2 : decode cX1_clear 2 = .ok (.putfield 33, 3) := by decide +kernel
theorem dX1_clear_5 : decode cX1_clear 5 = .ok (.aload_n 0, 1) := by decide +kernel
theorem dX1_clear_6 : decode cX1_clear 6 = .ok (.lconst 0, 1) := by decide +kernel
theorem dX1_clear_7 : decode cX1_clear 7 = .ok (.putfield 37, 3) := by decide +kernel
theorem dX1_clear_10 : decode cX1_clear 10 = .ok (.return_, 1) := by decide +kernel
theorem dX1_add_0 : decode cX1_add 0 = .ok (.aload_n 0, 1) := by decide +kernel
theorem dX1_add_1 : decode cX1_add 1 = .ok (.getfield 33, 3) := by decide +kernel
theorem dX1_add_4 : decode cX1_add 4 = .ok (.ifCond .lt 12, 3) := by decide +kernel
theorem dX1_add_7 : decode cX1_add 7 = .ok (.aload_n 0, 1) := by decide +kernel
theorem dX1_add_8 : decode cX1_add 8 = .ok (.getfield 33, 3) := by decide +kernel
theorem dX1_add_11 : decode cX1_add 11 = .ok (.bipush 80, 2) := by decide +kernel
theorem dX1_add_13 : decode cX1_add 13 = .ok (.if_icmp .lt 4, 3) := by decide +kernel
theorem dX1_add_16 : decode cX1_add 16 = .ok (.return_, 1) := by decide +kernel
theorem dX1_add_17 : decode cX1_add 17 = .ok (.aload_n 0, 1) := by decide +kernel
theorem dX1_add_18 : decode cX1_add 18 = .ok (.getfield 13, 3) := by decide +kernel
theorem dX1_add_21 : decode cX1_add 21 = .ok (.aload_n 0, 1) := by decide +kernel
theorem dX1_add_22 : decode cX1_add 22 = .ok (.getfield 33, 3) := by decide +kernel
theorem dX1_add_25 : decode cX1_add 25 = .ok (.iload_n 1, 1) := by decide +kernel
theorem dX1_add_26 : decode cX1_add 26 = .ok (.iastore, 1) := by decide +kernel
theorem dX1_add_27 : decode cX1_add 27 = .ok (.aload_n 0, 1) := by decide +kernel
theorem dX1_add_28 : decode cX1_add 28 = .ok (.getfield 17, 3) := by decide +kernel
theorem dX1_add_31 : decode cX1_add 31 = .ok (.aload_n 0, 1) := by decide +kernel
theorem dX1_add_32 : decode cX1_add 32 = .ok (.getfield 33, 3) := by decide +kernel
theorem dX1_add_35 : decode cX1_add 35 = .ok (.iload_n 2, 1) := by decide +kernel
theorem dX1_add_36 : decode cX1_add 36 = .ok (.iastore, 1) := by decide +kernel
theorem dX1_add_37 : decode cX1_add 37 = .ok (.aload_n 0, 1) := by decide +kernel
theorem dX1_add_38 : decode cX1_add 38 = .ok (.dup, 1) := by decide +kernel
theorem dX1_add_39 : decode cX1_add 39 = .ok (.getfield 33, 3) := by decide +kernel
theorem dX1_add_42 : decode cX1_add 42 = .ok (.iconst 1, 1) := by decide +kernel
theorem dX1_add_43 : decode cX1_add 43 = .ok (.iadd, 1) := by decide +kernel
theorem dX1_add_44 : decode cX1_add 44 = .ok (.putfield 33, 3) := by decide +kernel
theorem dX1_add_47 : decode cX1_add 47 = .ok (.return_, 1) := by decide +kernel
theorem dX1_end_0 : decode cX1_end 0 = .ok (.iload_n 1, 1) := by decide +kernel
theorem dX1_end_1 : decode cX1_end 1 = .ok (.ifCond .lt 11, 3) := by decide +kernel
theorem dX1_end_4 : decode cX1_end 4 = .ok (.iload_n 1, 1) := by decide +kernel
theorem dX1_end_5 : decode cX1_end 5 = .ok (.aload_n 0, 1) := by decide +kernel
theorem dX1_end_6 : decode cX1_end 6 = .ok (.getfield 33, 3) := by decide +kernel
theorem dX1_end_9 : decode cX1_end 9 = .ok (.if_icmp .lt 5, 3) := by decide +kernel
theorem dX1_end_12 : decode cX1_end 12 = .ok (.iconst 0, 1) := by decide +kernel
theorem dX1_end_13 : decode cX1_end 13 = .ok (.ireturn, 1) := by decide +kernel
theorem dX1_end_14 : decode cX1_end 14 = .ok (.aload_n 0, 1) := by decide +kernel
theorem dX1_end_15 : decode cX1_end 15 = .ok (.getfield 20, 3) := by decide +kernel
theorem dX1_end_18 : decode cX1_end 18 = .ok (.iload_n 1, 1) := by decide +kernel
theorem dX1_end_19 : decode cX1_end 19 = .ok (.aload_n 0, 1) := by decide +kernel
theorem dX1_end_20 : decode cX1_end 20 = .ok (.getfield 33, 3) := by decide +kernel
theorem dX1_end_23 : decode cX1_end 23 = .ok (.iastore, 1) := by decide +kernel
theorem dX1_end_24 : decode cX1_end 24 = .ok (.aload_n 0, 1) := by decide +kernel
theorem dX1_end_25 : decode cX1_end 25 = .ok (.getfield 23, 3) := by decide +kernel
theorem dX1_end_28 : decode cX1_end 28 = .ok (.iload_n 1, 1) := by decide +kernel
theorem dX1_end_29 : decode cX1_end 29 = .ok (.lload_n 2, 1) := by decide +kernel
theorem dX1_end_30 : decode cX1_end 30 = .ok (.lastore, 1) := by decide +kernel
theorem dX1_end_31 : decode cX1_end 31 = .ok (.aload_n 0, 1) := by decide +kernel
theorem dX1_end_32 : decode cX1_end 32 = .ok (.getfield 27, 3) := by decide +kernel
theorem dX1_end_35 : decode cX1_end 35 = .ok (.iload_n 1, 1) := by decide +kernel
theorem dX1_end_36 : decode cX1_end 36 = .ok (.iload 4, 2) := by decide +kernel
theorem dX1_end_38 : decode cX1_end 38 = .ok (.iastore, 1) := by decide +kernel
theorem dX1_end_39 : decode cX1_end 39 = .ok (.aload_n 0, 1) := by decide +kernel
theorem dX1_end_40 : decode cX1_end 40 = .ok (.getfield 30, 3) := by decide +kernel
theorem dX1_end_43 : decode cX1_end 43 = .ok (.iload_n 1, 1) := by decide +kernel
theorem dX1_end_44 : decode cX1_end 44 = .ok (.iload 5, 2) := by decide +kernel
theorem dX1_end_46 : decode cX1_end 46 = .ok (.iastore, 1) := by decide +kernel
theorem dX1_end_47 : decode cX1_end 47 = .ok (.aload_n 0, 1) := by decide +kernel
theorem dX1_end_48 : decode cX1_end 48 = .ok (.getfield 17, 3) := by decide +kernel
theorem dX1_end_51 : decode cX1_end 51 = .ok (.iload_n 1, 1) := by decide +kernel
theorem dX1_end_52 : decode cX1_end 52 = .ok (.iaload, 1) := by decide +kernel
theorem dX1_end_53 : decode cX1_end 53 = .ok (.ireturn, 1) := by decide +kernel
set_option maxRecDepth 20000 in
theorem ggX1_tell_X1_has : GoodIn wsX1_tell wsX1_has := goodIn_r _ [11, 12, 29, 30, 31, 32, 33, 34, 35, 36, 37, 38, 39] (by decide +kernel) (by decide +kernel)
set_option maxRecDepth 20000 in
theorem gX1_tell_X1_has : GoodIn wsX1_tell (wsV RX1 50 RX1 yX1_has wsX1_has) := goodIn_app (goodIn_of _ (by decide +kernel)) ggX1_tell_X1_has
set_option maxRecDepth 20000 in
theorem ggX1_tell_X1_tellHere : GoodIn wsX1_tell wsX1_tellHere := goodIn_r _ [16, 2, 3, 29, 30, 31, 32, 33, 34, 35, 36, 37, 38, 39] (by decide +kernel) (by decide +kernel)
set_option maxRecDepth 20000 in
theorem gX1_tell_X1_tellHere : GoodIn wsX1_tell (wsV RX1 60 RX1 yX1_tellHere wsX1_tellHere) := goodIn_app (goodIn_of _ (by decide +kernel)) ggX1_tell_X1_tellHere
set_option maxRecDepth 20000 in
theorem ggX1_tell_X1_pass : GoodIn wsX1_tell wsX1_pass := goodIn_r _ [20, 5, 1, 6, 2, 3, 21, 22, 23, 10, 24, 25, 26, 27, 28, 29, 30, 31, 32, 33, 34, 35, 36, 37, 38, 39] (by decide +kernel) (by decide +kernel)
set_option maxRecDepth 20000 in
theorem gX1_tell_X1_pass : GoodIn wsX1_tell (wsV RX1 64 RX1 yX1_pass wsX1_pass) := goodIn_app (goodIn_of _ (by decide +kernel)) ggX1_tell_X1_pass
theorem dX1_tell_0 : decode cX1_tell 0 = .ok (.aload_n 0, 1) := by decide +kernel
theorem dX1_tell_1 : decode cX1_tell 1 = .ok (.lload_n 1, 1) := by decide +kernel
theorem dX1_tell_2 : decode cX1_tell 2 = .ok (.invokevirtual 50, 3) := by decide +kernel
theorem dX1_tell_5 : decode cX1_tell 5 = .ok (.ifCond .ne 5, 3) := by decide +kernel
theorem dX1_tell_8 : decode cX1_tell 8 = .ok (.iconst (-1), 1) := by decide +kernel
theorem dX1_tell_9 : decode cX1_tell 9 = .ok (.ireturn, 1) := by decide +kernel
theorem dX1_tell_10 : decode cX1_tell 10 = .ok (.aload_n 0, 1) := by decide +kernel
theorem dX1_tell_11 : decode cX1_tell 11 = .ok (.lload_n 1, 1) := by decide +kernel
theorem dX1_tell_12 : decode cX1_tell 12 = .ok (.putfield 41, 3) := by decide +kernel
theorem dX1_tell_15 : decode cX1_tell 15 = .ok (.aload_n 0, 1) := by decide +kernel
theorem dX1_tell_16 : decode cX1_tell 16 = .ok (.iconst 0, 1) := by decide +kernel
theorem dX1_tell_17 : decode cX1_tell 17 = .ok (.putfield 44, 3) := by decide +kernel
theorem dX1_tell_20 : decode cX1_tell 20 = .ok (.aload_n 0, 1) := by decide +kernel
theorem dX1_tell_21 : decode cX1_tell 21 = .ok (.bipush 100, 2) := by decide +kernel
theorem dX1_tell_23 : decode cX1_tell 23 = .ok (.putfield 47, 3) := by decide +kernel
theorem dX1_tell_26 : decode cX1_tell 26 = .ok (.iconst 0, 1) := by decide +kernel
theorem dX1_tell_27 : decode cX1_tell 27 = .ok (.istore 4, 2) := by decide +kernel
theorem dX1_tell_29 : decode cX1_tell 29 = .ok (.iconst 0, 1) := by decide +kernel
theorem dX1_tell_30 : decode cX1_tell 30 = .ok (.istore 5, 2) := by decide +kernel
theorem dX1_tell_32 : decode cX1_tell 32 = .ok (.iload 5, 2) := by decide +kernel
theorem dX1_tell_34 : decode cX1_tell 34 = .ok (.bipush 80, 2) := by decide +kernel
theorem dX1_tell_36 : decode cX1_tell 36 = .ok (.if_icmp .ge 63, 3) := by decide +kernel
theorem dX1_tell_39 : decode cX1_tell 39 = .ok (.iload 4, 2) := by decide +kernel
theorem dX1_tell_41 : decode cX1_tell 41 = .ok (.ifCond .lt 58, 3) := by decide +kernel
theorem dX1_tell_44 : decode cX1_tell 44 = .ok (.iload 4, 2) := by decide +kernel
theorem dX1_tell_46 : decode cX1_tell 46 = .ok (.aload_n 0, 1) := by decide +kernel
theorem dX1_tell_47 : decode cX1_tell 47 = .ok (.getfield 33, 3) := by decide +kernel
theorem dX1_tell_50 : decode cX1_tell 50 = .ok (.if_icmp .ge 49, 3) := by decide +kernel
theorem dX1_tell_53 : decode cX1_tell 53 = .ok (.aload_n 0, 1) := by decide +kernel
theorem dX1_tell_54 : decode cX1_tell 54 = .ok (.getfield 13, 3) := by decide +kernel
theorem dX1_tell_57 : decode cX1_tell 57 = .ok (.iload 4, 2) := by decide +kernel
theorem dX1_tell_59 : decode cX1_tell 59 = .ok (.iaload, 1) := by decide +kernel
theorem dX1_tell_60 : decode cX1_tell 60 = .ok (.ifCond .ne 25, 3) := by decide +kernel
theorem dX1_tell_63 : decode cX1_tell 63 = .ok (.aload_n 0, 1) := by decide +kernel
theorem dX1_tell_64 : decode cX1_tell 64 = .ok (.getfield 41, 3) := by decide +kernel
theorem dX1_tell_67 : decode cX1_tell 67 = .ok (.lconst 0, 1) := by decide +kernel
theorem dX1_tell_68 : decode cX1_tell 68 = .ok (.lcmp, 1) := by decide +kernel
theorem dX1_tell_69 : decode cX1_tell 69 = .ok (.ifCond .ne 16, 3) := by decide +kernel
theorem dX1_tell_72 : decode cX1_tell 72 = .ok (.aload_n 0, 1) := by decide +kernel
theorem dX1_tell_73 : decode cX1_tell 73 = .ok (.aload_n 0, 1) := by decide +kernel
theorem dX1_tell_74 : decode cX1_tell 74 = .ok (.getfield 17, 3) := by decide +kernel
theorem dX1_tell_77 : decode cX1_tell 77 = .ok (.iload 4, 2) := by decide +kernel
theorem dX1_tell_79 : decode cX1_tell 79 = .ok (.iaload, 1) := by decide +kernel
theorem dX1_tell_80 : decode cX1_tell 80 = .ok (.iload_n 3, 1) := by decide +kernel
theorem dX1_tell_81 : decode cX1_tell 81 = .ok (.invokevirtual 60, 3) := by decide +kernel
theorem dX1_tell_84 : decode cX1_tell 84 = .ok (.ireturn, 1) := by decide +kernel
theorem dX1_tell_85 : decode cX1_tell 85 = .ok (.aload_n 0, 1) := by decide +kernel
theorem dX1_tell_86 : decode cX1_tell 86 = .ok (.iload 4, 2) := by decide +kernel
theorem dX1_tell_88 : decode cX1_tell 88 = .ok (.invokevirtual 64, 3) := by decide +kernel
theorem dX1_tell_91 : decode cX1_tell 91 = .ok (.istore 4, 2) := by decide +kernel
theorem dX1_tell_93 : decode cX1_tell 93 = .ok (.iinc 5 1, 3) := by decide +kernel
theorem dX1_tell_96 : decode cX1_tell 96 = .ok (.goto (-64), 3) := by decide +kernel
theorem dX1_tell_99 : decode cX1_tell 99 = .ok (.iconst (-1), 1) := by decide +kernel
theorem dX1_tell_100 : decode cX1_tell 100 = .ok (.ireturn, 1) := by decide +kernel
theorem dX1_tellHere_0 : decode cX1_tellHere 0 = .ok (.iload_n 2, 1) := by decide +kernel
theorem dX1_tellHere_1 : decode cX1_tellHere 1 = .ok (.tableswitch 39 0 2 #[27, 29, 34], 27) := by decide +kernel
theorem dX1_tellHere_28 : decode cX1_tellHere 28 = .ok (.iload_n 1, 1) := by decide +kernel
theorem dX1_tellHere_29 : decode cX1_tellHere 29 = .ok (.ireturn, 1) := by decide +kernel
theorem dX1_tellHere_30 : decode cX1_tellHere 30 = .ok (.aload_n 0, 1) := by decide +kernel
theorem dX1_tellHere_31 : decode cX1_tellHere 31 = .ok (.getfield 44, 3) := by decide +kernel
theorem dX1_tellHere_34 : decode cX1_tellHere 34 = .ok (.ireturn, 1) := by decide +kernel
theorem dX1_tellHere_35 : decode cX1_tellHere 35 = .ok (.aload_n 0, 1) := by decide +kernel
theorem dX1_tellHere_36 : decode cX1_tellHere 36 = .ok (.getfield 47, 3) := by decide +kernel
theorem dX1_tellHere_39 : decode cX1_tellHere 39 = .ok (.ireturn, 1) := by decide +kernel
theorem dX1_tellHere_40 : decode cX1_tellHere 40 = .ok (.iconst (-1), 1) := by decide +kernel
theorem dX1_tellHere_41 : decode cX1_tellHere 41 = .ok (.ireturn, 1) := by decide +kernel
set_option maxRecDepth 20000 in
theorem ggX1_pass_X1_passBracket : GoodIn wsX1_pass wsX1_passBracket := goodIn_r _ [10, 11, 2, 3, 1, 12, 4, 13, 5, 14, 15, 16, 17, 18, 19, 20, 21, 22, 23, 24, 25] (by decide +kernel) (by decide +kernel)
set_option maxRecDepth 20000 in
theorem gX1_pass_X1_passBracket : GoodIn wsX1_pass (wsV RX1 68 RX1 yX1_passBracket wsX1_passBracket) := goodIn_app (goodIn_of _ (by decide +kernel)) ggX1_pass_X1_passBracket
theorem dX1_pass_0 : decode cX1_pass 0 = .ok (.aload_n 0, 1) := by decide +kernel
theorem dX1_pass_1 : decode cX1_pass 1 = .ok (.getfield 13, 3) := by decide +kernel
theorem dX1_pass_4 : decode cX1_pass 4 = .ok (.iload_n 1, 1) := by decide +kernel
theorem dX1_pass_5 : decode cX1_pass 5 = .ok (.iaload, 1) := by decide +kernel
theorem dX1_pass_6 : decode cX1_pass 6 = .ok (.tableswitch 68 0 2 #[26, 40, 54], 26) := by decide +kernel
theorem dX1_pass_32 : decode cX1_pass 32 = .ok (.aload_n 0, 1) := by decide +kernel
theorem dX1_pass_33 : decode cX1_pass 33 = .ok (.dup, 1) := by decide +kernel
theorem dX1_pass_34 : decode cX1_pass 34 = .ok (.getfield 41, 3) := by decide +kernel
theorem dX1_pass_37 : decode cX1_pass 37 = .ok (.lconst 1, 1) := by decide +kernel
theorem dX1_pass_38 : decode cX1_pass 38 = .ok (.lsub, 1) := by decide +kernel
theorem dX1_pass_39 : decode cX1_pass 39 = .ok (.putfield 41, 3) := by decide +kernel
theorem dX1_pass_42 : decode cX1_pass 42 = .ok (.iload_n 1, 1) := by decide +kernel
theorem dX1_pass_43 : decode cX1_pass 43 = .ok (.iconst 1, 1) := by decide +kernel
theorem dX1_pass_44 : decode cX1_pass 44 = .ok (.iadd, 1) := by decide +kernel
theorem dX1_pass_45 : decode cX1_pass 45 = .ok (.ireturn, 1) := by decide +kernel
theorem dX1_pass_46 : decode cX1_pass 46 = .ok (.aload_n 0, 1) := by decide +kernel
theorem dX1_pass_47 : decode cX1_pass 47 = .ok (.aload_n 0, 1) := by decide +kernel
theorem dX1_pass_48 : decode cX1_pass 48 = .ok (.getfield 17, 3) := by decide +kernel
theorem dX1_pass_51 : decode cX1_pass 51 = .ok (.iload_n 1, 1) := by decide +kernel
theorem dX1_pass_52 : decode cX1_pass 52 = .ok (.iaload, 1) := by decide +kernel
theorem dX1_pass_53 : decode cX1_pass 53 = .ok (.putfield 44, 3) := by decide +kernel
theorem dX1_pass_56 : decode cX1_pass 56 = .ok (.iload_n 1, 1) := by decide +kernel
theorem dX1_pass_57 : decode cX1_pass 57 = .ok (.iconst 1, 1) := by decide +kernel
theorem dX1_pass_58 : decode cX1_pass 58 = .ok (.iadd, 1) := by decide +kernel
theorem dX1_pass_59 : decode cX1_pass 59 = .ok (.ireturn, 1) := by decide +kernel
theorem dX1_pass_60 : decode cX1_pass 60 = .ok (.aload_n 0, 1) := by decide +kernel
theorem dX1_pass_61 : decode cX1_pass 61 = .ok (.aload_n 0, 1) := by decide +kernel
theorem dX1_pass_62 : decode cX1_pass 62 = .ok (.getfield 17, 3) := by decide +kernel
theorem dX1_pass_65 : decode cX1_pass 65 = .ok (.iload_n 1, 1) := by decide +kernel
theorem dX1_pass_66 : decode cX1_pass 66 = .ok (.iaload, 1) := by decide +kernel
theorem dX1_pass_67 : decode cX1_pass 67 = .ok (.putfield 47, 3) := by decide +kernel
theorem dX1_pass_70 : decode cX1_pass 70 = .ok (.iload_n 1, 1) := by decide +kernel
theorem dX1_pass_71 : decode cX1_pass 71 = .ok (.iconst 1, 1) := by decide +kernel
theorem dX1_pass_72 : decode cX1_pass 72 = .ok (.iadd, 1) := by decide +kernel
theorem dX1_pass_73 : decode cX1_pass 73 = .ok (.ireturn, 1) := by decide +kernel
theorem dX1_pass_74 : decode cX1_pass 74 = .ok (.aload_n 0, 1) := by decide +kernel
theorem dX1_pass_75 : decode cX1_pass 75 = .ok (.iload_n 1, 1) := by decide +kernel
theorem dX1_pass_76 : decode cX1_pass 76 = .ok (.invokevirtual 68, 3) := by decide +kernel
theorem dX1_pass_79 : decode cX1_pass 79 = .ok (.ireturn, 1) := by decide +kernel
theorem dX1_passBracket_0 : decode cX1_passBracket 0 = .ok (.aload_n 0, 1) := by decide +kernel
theorem dX1_passBracket_1 : decode cX1_passBracket 1 = .ok (.getfield 23, 3) := by decide +kernel
theorem dX1_passBracket_4 : decode cX1_passBracket 4 = .ok (.iload_n 1, 1) := by decide +kernel
theorem dX1_passBracket_5 : decode cX1_passBracket 5 = .ok (.laload, 1) := by decide +kernel
theorem dX1_passBracket_6 : decode cX1_passBracket 6 = .ok (.lstore_n 2, 1) := by decide +kernel
theorem dX1_passBracket_7 : decode cX1_passBracket 7 = .ok (.aload_n 0, 1) := by decide +kernel
theorem dX1_passBracket_8 : decode cX1_passBracket 8 = .ok (.getfield 41, 3) := by decide +kernel
theorem dX1_passBracket_11 : decode cX1_passBracket 11 = .ok (.lload_n 2, 1) := by decide +kernel
theorem dX1_passBracket_12 : decode cX1_passBracket 12 = .ok (.lcmp, 1) := by decide +kernel
theorem dX1_passBracket_13 : decode cX1_passBracket 13 = .ok (.ifCond .ge 7, 3) := by decide +kernel
theorem dX1_passBracket_16 : decode cX1_passBracket 16 = .ok (.iload_n 1, 1) := by decide +kernel
theorem dX1_passBracket_17 : decode cX1_passBracket 17 = .ok (.iconst 1, 1) := by decide +kernel
theorem dX1_passBracket_18 : decode cX1_passBracket 18 = .ok (.iadd, 1) := by decide +kernel
theorem dX1_passBracket_19 : decode cX1_passBracket 19 = .ok (.ireturn, 1) := by decide +kernel
theorem dX1_passBracket_20 : decode cX1_passBracket 20 = .ok (.lload_n 2, 1) := by decide +kernel
theorem dX1_passBracket_21 : decode cX1_passBracket 21 = .ok (.aload_n 0, 1) := by decide +kernel
theorem dX1_passBracket_22 : decode cX1_passBracket 22 = .ok (.getfield 17, 3) := by decide +kernel
theorem dX1_passBracket_25 : decode cX1_passBracket 25 = .ok (.iload_n 1, 1) := by decide +kernel
theorem dX1_passBracket_26 : decode cX1_passBracket 26 = .ok (.iaload, 1) := by decide +kernel
theorem dX1_passBracket_27 : decode cX1_passBracket 27 = .ok (.i2l, 1) := by decide +kernel
theorem dX1_passBracket_28 : decode cX1_passBracket 28 = .ok (.lmul, 1) := by decide +kernel
theorem dX1_passBracket_29 : decode cX1_passBracket 29 = .ok (.lstore 4, 2) := by decide +kernel
theorem dX1_passBracket_31 : decode cX1_passBracket 31 = .ok (.aload_n 0, 1) := by decide +kernel
theorem dX1_passBracket_32 : decode cX1_passBracket 32 = .ok (.getfield 13, 3) := by decide +kernel
theorem dX1_passBracket_35 : decode cX1_passBracket 35 = .ok (.iload_n 1, 1) := by decide +kernel
theorem dX1_passBracket_36 : decode cX1_passBracket 36 = .ok (.iaload, 1) := by decide +kernel
theorem dX1_passBracket_37 : decode cX1_passBracket 37 = .ok (.iconst 4, 1) := by decide +kernel
theorem dX1_passBracket_38 : decode cX1_passBracket 38 = .ok (.if_icmp .ne 30, 3) := by decide +kernel
theorem dX1_passBracket_41 : decode cX1_passBracket 41 = .ok (.aload_n 0, 1) := by decide +kernel
theorem dX1_passBracket_42 : decode cX1_passBracket 42 = .ok (.getfield 41, 3) := by decide +kernel
theorem dX1_passBracket_45 : decode cX1_passBracket 45 = .ok (.lload 4, 2) := by decide +kernel
theorem dX1_passBracket_47 : decode cX1_passBracket 47 = .ok (.lcmp, 1) := by decide +kernel
theorem dX1_passBracket_48 : decode cX1_passBracket 48 = .ok (.ifCond .ge 20, 3) := by decide +kernel
theorem dX1_passBracket_51 : decode cX1_passBracket 51 = .ok (.aload_n 0, 1) := by decide +kernel
theorem dX1_passBracket_52 : decode cX1_passBracket 52 = .ok (.lload 4, 2) := by decide +kernel
theorem dX1_passBracket_54 : decode cX1_passBracket 54 = .ok (.lconst 1, 1) := by decide +kernel
theorem dX1_passBracket_55 : decode cX1_passBracket 55 = .ok (.lsub, 1) := by decide +kernel
theorem dX1_passBracket_56 : decode cX1_passBracket 56 = .ok (.aload_n 0, 1) := by decide +kernel
theorem dX1_passBracket_57 : decode cX1_passBracket 57 = .ok (.getfield 41, 3) := by decide +kernel
theorem dX1_passBracket_60 : decode cX1_passBracket 60 = .ok (.lsub, 1) := by decide +kernel
theorem dX1_passBracket_61 : decode cX1_passBracket 61 = .ok (.putfield 41, 3) := by decide +kernel
theorem dX1_passBracket_64 : decode cX1_passBracket 64 = .ok (.iload_n 1, 1) := by decide +kernel
theorem dX1_passBracket_65 : decode cX1_passBracket 65 = .ok (.iconst 1, 1) := by decide +kernel
theorem dX1_passBracket_66 : decode cX1_passBracket 66 = .ok (.iadd, 1) := by decide +kernel
theorem dX1_passBracket_67 : decode cX1_passBracket 67 = .ok (.ireturn, 1) := by decide +kernel
theorem dX1_passBracket_68 : decode cX1_passBracket 68 = .ok (.aload_n 0, 1) := by decide +kernel
theorem dX1_passBracket_69 : decode cX1_passBracket 69 = .ok (.getfield 27, 3) := by decide +kernel
theorem dX1_passBracket_72 : decode cX1_passBracket 72 = .ok (.iload_n 1, 1) := by decide +kernel
theorem dX1_passBracket_73 : decode cX1_passBracket 73 = .ok (.iaload, 1) := by decide +kernel
theorem dX1_passBracket_74 : decode cX1_passBracket 74 = .ok (.iconst (-1), 1) := by decide +kernel
theorem dX1_passBracket_75 : decode cX1_passBracket 75 = .ok (.if_icmp .eq 13, 3) := by decide +kernel
theorem dX1_passBracket_78 : decode cX1_passBracket 78 = .ok (.aload_n 0, 1) := by decide +kernel
theorem dX1_passBracket_79 : decode cX1_passBracket 79 = .ok (.aload_n 0, 1) := by decide +kernel
theorem dX1_passBracket_80 : decode cX1_passBracket 80 = .ok (.getfield 27, 3) := by decide +kernel
theorem dX1_passBracket_83 : decode cX1_passBracket 83 = .ok (.iload_n 1, 1) := by decide +kernel
theorem dX1_passBracket_84 : decode cX1_passBracket 84 = .ok (.iaload, 1) := by decide +kernel
theorem dX1_passBracket_85 : decode cX1_passBracket 85 = .ok (.putfield 44, 3) := by decide +kernel
theorem dX1_passBracket_88 : decode cX1_passBracket 88 = .ok (.aload_n 0, 1) := by decide +kernel
theorem dX1_passBracket_89 : decode cX1_passBracket 89 = .ok (.getfield 30, 3) := by decide +kernel
theorem dX1_passBracket_92 : decode cX1_passBracket 92 = .ok (.iload_n 1, 1) := by decide +kernel
theorem dX1_passBracket_93 : decode cX1_passBracket 93 = .ok (.iaload, 1) := by decide +kernel
theorem dX1_passBracket_94 : decode cX1_passBracket 94 = .ok (.iconst (-1), 1) := by decide +kernel
theorem dX1_passBracket_95 : decode cX1_passBracket 95 = .ok (.if_icmp .eq 13, 3) := by decide +kernel
theorem dX1_passBracket_98 : decode cX1_passBracket 98 = .ok (.aload_n 0, 1) := by decide +kernel
theorem dX1_passBracket_99 : decode cX1_passBracket 99 = .ok (.aload_n 0, 1) := by decide +kernel
theorem dX1_passBracket_100 : decode cX1_passBracket 100 = .ok (.getfield 30, 3) := by decide +kernel
theorem dX1_passBracket_103 : decode cX1_passBracket 103 = .ok (.iload_n 1, 1) := by decide +kernel
theorem dX1_passBracket_104 : decode cX1_passBracket 104 = .ok (.iaload, 1) := by decide +kernel
theorem dX1_passBracket_105 : decode cX1_passBracket 105 = .ok (.putfield 47, 3) := by decide +kernel
theorem dX1_passBracket_108 : decode cX1_passBracket 108 = .ok (.aload_n 0, 1) := by decide +kernel
theorem dX1_passBracket_109 : decode cX1_passBracket 109 = .ok (.getfield 41, 3) := by decide +kernel
theorem dX1_passBracket_112 : decode cX1_passBracket 112 = .ok (.lload 4, 2) := by decide +kernel
theorem dX1_passBracket_114 : decode cX1_passBracket 114 = .ok (.lcmp, 1) := by decide +kernel
theorem dX1_passBracket_115 : decode cX1_passBracket 115 = .ok (.ifCond .ge 23, 3) := by decide +kernel
theorem dX1_passBracket_118 : decode cX1_passBracket 118 = .ok (.lload_n 2, 1) := by decide +kernel
theorem dX1_passBracket_119 : decode cX1_passBracket 119 = .ok (.lconst 0, 1) := by decide +kernel
theorem dX1_passBracket_120 : decode cX1_passBracket 120 = .ok (.lcmp, 1) := by decide +kernel
theorem dX1_passBracket_121 : decode cX1_passBracket 121 = .ok (.ifCond .le 17, 3) := by decide +kernel
theorem dX1_passBracket_124 : decode cX1_passBracket 124 = .ok (.aload_n 0, 1) := by decide +kernel
theorem dX1_passBracket_125 : decode cX1_passBracket 125 = .ok (.dup, 1) := by decide +kernel
theorem dX1_passBracket_126 : decode cX1_passBracket 126 = .ok (.getfield 41, 3) := by decide +kernel
theorem dX1_passBracket_129 : decode cX1_passBracket 129 = .ok (.lload_n 2, 1) := by decide +kernel
theorem dX1_passBracket_130 : decode cX1_passBracket 130 = .ok (.lrem, 1) := by decide +kernel
theorem dX1_passBracket_131 : decode cX1_passBracket 131 = .ok (.putfield 41, 3) := by decide +kernel
theorem dX1_passBracket_134 : decode cX1_passBracket 134 = .ok (.iload_n 1, 1) := by decide +kernel
theorem dX1_passBracket_135 : decode cX1_passBracket 135 = .ok (.iconst 1, 1) := by decide +kernel
theorem dX1_passBracket_136 : decode cX1_passBracket 136 = .ok (.iadd, 1) := by decide +kernel
theorem dX1_passBracket_137 : decode cX1_passBracket 137 = .ok (.ireturn, 1) := by decide +kernel
theorem dX1_passBracket_138 : decode cX1_passBracket 138 = .ok (.aload_n 0, 1) := by decide +kernel
theorem dX1_passBracket_139 : decode cX1_passBracket 139 = .ok (.dup, 1) := by decide +kernel
theorem dX1_passBracket_140 : decode cX1_passBracket 140 = .ok (.getfield 41, 3) := by decide +kernel
theorem dX1_passBracket_143 : decode cX1_passBracket 143 = .ok (.lload 4, 2) := by decide +kernel
theorem dX1_passBracket_145 : decode cX1_passBracket 145 = .ok (.lsub, 1) := by decide +kernel
theorem dX1_passBracket_146 : decode cX1_passBracket 146 = .ok (.putfield 41, 3) := by decide +kernel
theorem dX1_passBracket_149 : decode cX1_passBracket 149 = .ok (.aload_n 0, 1) := by decide +kernel
theorem dX1_passBracket_150 : decode cX1_passBracket 150 = .ok (.getfield 20, 3) := by decide +kernel
theorem dX1_passBracket_153 : decode cX1_passBracket 153 = .ok (.iload_n 1, 1) := by decide +kernel
theorem dX1_passBracket_154 : decode cX1_passBracket 154 = .ok (.iaload, 1) := by decide +kernel
theorem dX1_passBracket_155 : decode cX1_passBracket 155 = .ok (.ireturn, 1) := by decide +kernel
set_option maxRecDepth 20000 in
theorem ggX2_init_X5_init : GoodIn wsX2_init wsX5_init := goodIn_r _ [23, 24, 2, 3, 15, 25, 26, 42, 43] (by decide +kernel) (by decide +kernel)
set_option maxRecDepth 20000 in
theorem gX2_init_X5_init : GoodIn wsX2_init (wsX5_init) := ggX2_init_X5_init
set_option maxRecDepth 20000 in
theorem ggX2_init_X1_init : GoodIn wsX2_init wsX1_init := goodIn_r _ [29, 30, 2, 3, 15, 31, 32, 33, 17, 34, 35, 36, 37, 38, 39, 40, 41, 53, 54, 55, 56, 57, 58, 59, 60, 61, 62, 63] (by decide +kernel) (by decide +kernel)
set_option maxRecDepth 20000 in
theorem gX2_init_X1_init : GoodIn wsX2_init (wsX1_init) := ggX2_init_X1_init
theorem dX2_init_0 : decode cX2_init 0 = .ok (.aload_n 0, 1) := by decide +kernel
theorem dX2_init_1 : decode cX2_init 1 = .ok (.invokespecial 3, 3) := by decide +kernel
theorem dX2_init_4 : decode cX2_init 4 = .ok (.aload_n 0, 1) := by decide +kernel
theorem dX2_init_5 : decode cX2_init 5 = .ok (.new 9, 3) := by decide +kernel
theorem dX2_init_8 : decode cX2_init 8 = .ok (.dup, 1) := by decide +kernel
theorem dX2_init_9 : decode cX2_init 9 = .ok (.invokespecial 11, 3) := by decide +kernel
theorem dX2_init_12 : decode cX2_init 12 = .ok (.putfield 12, 3) := by decide +kernel
theorem dX2_init_15 : decode cX2_init 15 = .ok (.aload_n 0, 1) := by decide +kernel
theorem dX2_init_16 : decode cX2_init 16 = .ok (.new 18, 3) := by decide +kernel
theorem dX2_init_19 : decode cX2_init 19 = .ok (.dup, 1) := by decide +kernel
theorem dX2_init_20 : decode cX2_init 20 = .ok (.invokespecial 20, 3) := by decide +kernel
theorem dX2_init_23 : decode cX2_init 23 = .ok (.putfield 21, 3) := by decide +kernel
theorem dX2_init_26 : decode cX2_init 26 = .ok (.aload_n 0, 1) := by decide +kernel
theorem dX2_init_27 : decode cX2_init 27 = .ok (.iconst 0, 1) := by decide +kernel
theorem dX2_init_28 : decode cX2_init 28 = .ok (.putfield 25, 3) := by decide +kernel
theorem dX2_init_31 : decode cX2_init 31 = .ok (.aload_n 0, 1) := by decide +kernel
theorem dX2_init_32 : decode cX2_init 32 = .ok (.iconst (-1), 1) := by decide +kernel
theorem dX2_init_33 : decode cX2_init 33 = .ok (.putfield 29, 3) := by decide +kernel
theorem dX2_init_36 : decode cX2_init 36 = .ok (.aload_n 0, 1) := by decide +kernel
theorem dX2_init_37 : decode cX2_init 37 = .ok (.iconst 0, 1) := by decide +kernel
theorem dX2_init_38 : decode cX2_init 38 = .ok (.putfield 32, 3) := by decide +kernel
theorem dX2_init_41 : decode cX2_init 41 = .ok (.aload_n 0, 1) := by decide +kernel
theorem dX2_init_42 : decode cX2_init 42 = .ok (.bipush 7, 2) := by decide +kernel
theorem dX2_init_44 : decode cX2_init 44 = .ok (.newarray .int, 2) := by decide +kernel
theorem dX2_init_46 : decode cX2_init 46 = .ok (.putfield 35, 3) := by decide +kernel
theorem dX2_init_49 : decode cX2_init 49 = .ok (.aload_n 0, 1) := by decide +kernel
theorem dX2_init_50 : decode cX2_init 50 = .ok (.bipush 7, 2) := by decide +kernel
theorem dX2_init_52 : decode cX2_init 52 = .ok (.newarray .long, 2) := by decide +kernel
theorem dX2_init_54 : decode cX2_init 54 = .ok (.putfield 39, 3) := by decide +kernel
theorem dX2_init_57 : decode cX2_init 57 = .ok (.aload_n 0, 1) := by decide +kernel
theorem dX2_init_58 : decode cX2_init 58 = .ok (.bipush 7, 2) := by decide +kernel
theorem dX2_init_60 : decode cX2_init 60 = .ok (.newarray .int, 2) := by decide +kernel
theorem dX2_init_62 : decode cX2_init 62 = .ok (.putfield 43, 3) := by decide +kernel
theorem dX2_init_65 : decode cX2_init 65 = .ok (.aload_n 0, 1) := by decide +kernel
theorem dX2_init_66 : decode cX2_init 66 = .ok (.bipush 7, 2) := by decide +kernel
theorem dX2_init_68 : decode cX2_init 68 = .ok (.newarray .int, 2) := by decide +kernel
theorem dX2_init_70 : decode cX2_init 70 = .ok (.putfield 46, 3) := by decide +kernel
theorem dX2_init_73 : decode cX2_init 73 = .ok (.return_, 1) := by decide +kernel
theorem dX2_exchange_0 : decode cX2_exchange 0 = .ok (.aload_n 0, 1) := by decide +kernel
theorem dX2_exchange_1 : decode cX2_exchange 1 = .ok (.getfield 21, 3) := by decide +kernel
theorem dX2_exchange_4 : decode cX2_exchange 4 = .ok (.astore_n 2, 1) := by decide +kernel
theorem dX2_exchange_5 : decode cX2_exchange 5 = .ok (.aload_n 0, 1) := by decide +kernel
theorem dX2_exchange_6 : decode cX2_exchange 6 = .ok (.aload_n 1, 1) := by decide +kernel
theorem dX2_exchange_7 : decode cX2_exchange 7 = .ok (.putfield 21, 3) := by decide +kernel
theorem dX2_exchange_10 : decode cX2_exchange 10 = .ok (.aload_n 2, 1) := by decide +kernel
theorem dX2_exchange_11 : decode cX2_exchange 11 = .ok (.areturn, 1) := by decide +kernel
set_option maxRecDepth 20000 in
theorem ggX2_read_X1_clear : GoodIn wsX2_read wsX1_clear := goodIn_r _ [12, 13, 14, 120, 121, 122, 123, 124, 125, 126, 127, 128, 129, 130] (by decide +kernel) (by decide +kernel)
set_option maxRecDepth 20000 in
theorem gX2_read_X1_clear : GoodIn wsX2_read (wsV RX2 49 RX1 yX1_clear wsX1_clear) := goodIn_app (goodIn_of _ (by decide +kernel)) ggX2_read_X1_clear
set_option maxRecDepth 20000 in
theorem ggX2_read_X5_behindBlanks : GoodIn wsX2_read wsX5_behindBlanks := goodIn_r _ [19, 20, 21, 22, 18, 23, 24, 25, 118, 119] (by decide +kernel) (by decide +kernel)
set_option maxRecDepth 20000 in
theorem gX2_read_X5_behindBlanks : GoodIn wsX2_read (wsV RX2 52 RX5 yX5_behindBlanks wsX5_behindBlanks) := goodIn_app (goodIn_of _ (by decide +kernel)) ggX2_read_X5_behindBlanks
set_option maxRecDepth 20000 in
theorem ggX2_read_X2_beginLevel : GoodIn wsX2_read wsX2_beginLevel := goodIn_r _ [30, 31, 5, 6, 32, 33, 109, 110, 111, 112, 113, 114, 115, 116, 117] (by decide +kernel) (by decide +kernel)
set_option maxRecDepth 20000 in
theorem gX2_read_X2_beginLevel : GoodIn wsX2_read (wsV RX2 56 RX2 yX2_beginLevel wsX2_beginLevel) := goodIn_app (goodIn_of _ (by decide +kernel)) ggX2_read_X2_beginLevel
set_option maxRecDepth 20000 in
theorem ggX2_read_X2_readItem : GoodIn wsX2_read wsX2_readItem := goodIn_r _ [37, 2, 3, 38, 21, 22, 18, 23, 24, 25, 39, 40, 41, 29, 42, 1, 43, 44, 45, 46, 47, 48, 49, 50, 51, 52, 53, 54, 55, 56, 57, 58, 4, 59, 60, 61, 11, 62, 13, 63, 64, 65, 66, 67, 68, 6, 5, 69, 70, 71, 72, 73, 74, 75, 76, 32, 77, 78, 79, 80, 33, 81, 82, 83, 84, 85, 86, 87, 88, 89, 90, 91, 92, 31, 15, 16, 17, 19, 20, 26, 27, 28, 30, 93, 94, 95, 96, 97, 98, 99, 100, 101, 102, 103, 104, 109, 110, 111, 112, 113, 114, 115, 116, 117, 118, 119, 120, 121, 122, 123, 124, 125, 126, 127, 128, 129, 130] (by decide +kernel) (by decide +kernel)
set_option maxRecDepth 20000 in
theorem gX2_read_X2_readItem : GoodIn wsX2_read (wsV RX2 62 RX2 yX2_readItem wsX2_readItem) := goodIn_app (goodIn_of _ (by decide +kernel)) ggX2_read_X2_readItem
set_option maxRecDepth 20000 in
theorem ggX2_read_X2_faultAt : GoodIn wsX2_read wsX2_faultAt := goodIn_r _ [58, 4, 109, 110, 111, 112, 113, 114, 115, 116, 117] (by decide +kernel) (by decide +kernel)
set_option maxRecDepth 20000 in
theorem gX2_read_X2_faultAt : GoodIn wsX2_read (wsV RX2 65 RX2 yX2_faultAt wsX2_faultAt) := goodIn_app (goodIn_of _ (by decide +kernel)) ggX2_read_X2_faultAt
set_option maxRecDepth 20000 in
theorem ggX2_read_X5_clear : GoodIn wsX2_read wsX5_clear := goodIn_r _ [108, 24, 118, 119] (by decide +kernel) (by decide +kernel)
set_option maxRecDepth 20000 in
theorem gX2_read_X5_clear : GoodIn wsX2_read (wsV RX2 74 RX5 yX5_clear wsX5_clear) := goodIn_app (goodIn_of _ (by decide +kernel)) ggX2_read_X5_clear
theorem dX2_read_0 : decode cX2_read 0 = .ok (.aload_n 0, 1) := by decide +kernel
theorem dX2_read_1 : decode cX2_read 1 = .ok (.getfield 21, 3) := by decide +kernel
theorem dX2_read_4 : decode cX2_read 4 = .ok (.invokevirtual 49, 3) := by decide +kernel
theorem dX2_read_7 : decode cX2_read 7 = .ok (.aload_n 0, 1) := by decide +kernel
theorem dX2_read_8 : decode cX2_read 8 = .ok (.aload_n 0, 1) := by decide +kernel
theorem dX2_read_9 : decode cX2_read 9 = .ok (.getfield 12, 3) := by decide +kernel
theorem dX2_read_12 : decode cX2_read 12 = .ok (.iconst 0, 1) := by decide +kernel
theorem dX2_read_13 : decode cX2_read 13 = .ok (.invokevirtual 52, 3) := by decide +kernel
theorem dX2_read_16 : decode cX2_read 16 = .ok (.putfield 25, 3) := by decide +kernel
theorem dX2_read_19 : decode cX2_read 19 = .ok (.aload_n 0, 1) := by decide +kernel
theorem dX2_read_20 : decode cX2_read 20 = .ok (.iconst (-1), 1) := by decide +kernel
theorem dX2_read_21 : decode cX2_read 21 = .ok (.putfield 29, 3) := by decide +kernel
theorem dX2_read_24 : decode cX2_read 24 = .ok (.aload_n 0, 1) := by decide +kernel
theorem dX2_read_25 : decode cX2_read 25 = .ok (.iconst 0, 1) := by decide +kernel
theorem dX2_read_26 : decode cX2_read 26 = .ok (.putfield 32, 3) := by decide +kernel
theorem dX2_read_29 : decode cX2_read 29 = .ok (.aload_n 0, 1) := by decide +kernel
theorem dX2_read_30 : decode cX2_read 30 = .ok (.invokevirtual 56, 3) := by decide +kernel
theorem dX2_read_33 : decode cX2_read 33 = .ok (.aload_n 0, 1) := by decide +kernel
theorem dX2_read_34 : decode cX2_read 34 = .ok (.getfield 25, 3) := by decide +kernel
theorem dX2_read_37 : decode cX2_read 37 = .ok (.istore_n 1, 1) := by decide +kernel
theorem dX2_read_38 : decode cX2_read 38 = .ok (.iconst 0, 1) := by decide +kernel
theorem dX2_read_39 : decode cX2_read 39 = .ok (.istore_n 2, 1) := by decide +kernel
theorem dX2_read_40 : decode cX2_read 40 = .ok (.iload_n 2, 1) := by decide +kernel
theorem dX2_read_41 : decode cX2_read 41 = .ok (.sipush 160, 3) := by decide +kernel
theorem dX2_read_44 : decode cX2_read 44 = .ok (.if_icmp .ge 50, 3) := by decide +kernel
theorem dX2_read_47 : decode cX2_read 47 = .ok (.aload_n 0, 1) := by decide +kernel
theorem dX2_read_48 : decode cX2_read 48 = .ok (.getfield 29, 3) := by decide +kernel
theorem dX2_read_51 : decode cX2_read 51 = .ok (.iconst (-1), 1) := by decide +kernel
theorem dX2_read_52 : decode cX2_read 52 = .ok (.if_icmp .ne 42, 3) := by decide +kernel
theorem dX2_read_55 : decode cX2_read 55 = .ok (.aload_n 0, 1) := by decide +kernel
theorem dX2_read_56 : decode cX2_read 56 = .ok (.getfield 25, 3) := by decide +kernel
theorem dX2_read_59 : decode cX2_read 59 = .ok (.aload_n 0, 1) := by decide +kernel
theorem dX2_read_60 : decode cX2_read 60 = .ok (.getfield 12, 3) := by decide +kernel
theorem dX2_read_63 : decode cX2_read 63 = .ok (.getfield 59, 3) := by decide +kernel
theorem dX2_read_66 : decode cX2_read 66 = .ok (.if_icmp .ge 28, 3) := by decide +kernel
theorem dX2_read_69 : decode cX2_read 69 = .ok (.aload_n 0, 1) := by decide +kernel
theorem dX2_read_70 : decode cX2_read 70 = .ok (.invokevirtual 62, 3) := by decide +kernel
theorem dX2_read_73 : decode cX2_read 73 = .ok (.aload_n 0, 1) := by decide +kernel
theorem dX2_read_74 : decode cX2_read 74 = .ok (.aload_n 0, 1) := by decide +kernel
theorem dX2_read_75 : decode cX2_read 75 = .ok (.getfield 12, 3) := by decide +kernel
theorem dX2_read_78 : decode cX2_read 78 = .ok (.aload_n 0, 1) := by decide +kernel
theorem dX2_read_79 : decode cX2_read 79 = .ok (.getfield 25, 3) := by decide +kernel
theorem dX2_read_82 : decode cX2_read 82 = .ok (.invokevirtual 52, 3) := by decide +kernel
theorem dX2_read_85 : decode cX2_read 85 = .ok (.putfield 25, 3) := by decide +kernel
theorem dX2_read_88 : decode cX2_read 88 = .ok (.iinc 2 1, 3) := by decide +kernel
theorem dX2_read_91 : decode cX2_read 91 = .ok (.goto (-51), 3) := by decide +kernel
theorem dX2_read_94 : decode cX2_read 94 = .ok (.aload_n 0, 1) := by decide +kernel
theorem dX2_read_95 : decode cX2_read 95 = .ok (.getfield 32, 3) := by decide +kernel
theorem dX2_read_98 : decode cX2_read 98 = .ok (.ifCond .le 14, 3) := by decide +kernel
theorem dX2_read_101 : decode cX2_read 101 = .ok (.aload_n 0, 1) := by decide +kernel
theorem dX2_read_102 : decode cX2_read 102 = .ok (.aload_n 0, 1) := by decide +kernel
theorem dX2_read_103 : decode cX2_read 103 = .ok (.getfield 12, 3) := by decide +kernel
theorem dX2_read_106 : decode cX2_read 106 = .ok (.getfield 59, 3) := by decide +kernel
theorem dX2_read_109 : decode cX2_read 109 = .ok (.invokevirtual 65, 3) := by decide +kernel
theorem dX2_read_112 : decode cX2_read 112 = .ok (.aload_n 0, 1) := by decide +kernel
theorem dX2_read_113 : decode cX2_read 113 = .ok (.getfield 39, 3) := by decide +kernel
theorem dX2_read_116 : decode cX2_read 116 = .ok (.iconst 0, 1) := by decide +kernel
theorem dX2_read_117 : decode cX2_read 117 = .ok (.laload, 1) := by decide +kernel
theorem dX2_read_118 : decode cX2_read 118 = .ok (.lconst 1, 1) := by decide +kernel
theorem dX2_read_119 : decode cX2_read 119 = .ok (.lcmp, 1) := by decide +kernel
theorem dX2_read_120 : decode cX2_read 120 = .ok (.ifCond .lt 16, 3) := by decide +kernel
theorem dX2_read_123 : decode cX2_read 123 = .ok (.aload_n 0, 1) := by decide +kernel
theorem dX2_read_124 : decode cX2_read 124 = .ok (.getfield 39, 3) := by decide +kernel
theorem dX2_read_127 : decode cX2_read 127 = .ok (.iconst 0, 1) := by decide +kernel
theorem dX2_read_128 : decode cX2_read 128 = .ok (.laload, 1) := by decide +kernel
theorem dX2_read_129 : decode cX2_read 129 = .ok (.ldc2_w 69, 3) := by decide +kernel
theorem dX2_read_132 : decode cX2_read 132 = .ok (.lcmp, 1) := by decide +kernel
theorem dX2_read_133 : decode cX2_read 133 = .ok (.ifCond .le 8, 3) := by decide +kernel
theorem dX2_read_136 : decode cX2_read 136 = .ok (.aload_n 0, 1) := by decide +kernel
theorem dX2_read_137 : decode cX2_read 137 = .ok (.iload_n 1, 1) := by decide +kernel
theorem dX2_read_138 : decode cX2_read 138 = .ok (.invokevirtual 65, 3) := by decide +kernel
theorem dX2_read_141 : decode cX2_read 141 = .ok (.aload_n 0, 1) := by decide +kernel
theorem dX2_read_142 : decode cX2_read 142 = .ok (.getfield 21, 3) := by decide +kernel
theorem dX2_read_145 : decode cX2_read 145 = .ok (.aload_n 0, 1) := by decide +kernel
theorem dX2_read_146 : decode cX2_read 146 = .ok (.getfield 39, 3) := by decide +kernel
theorem dX2_read_149 : decode cX2_read 149 = .ok (.iconst 0, 1) := by decide +kernel
theorem dX2_read_150 : decode cX2_read 150 = .ok (.laload, 1) := by decide +kernel
theorem dX2_read_151 : decode cX2_read 151 = .ok (.putfield 71, 3) := by decide +kernel
theorem dX2_read_154 : decode cX2_read 154 = .ok (.aload_n 0, 1) := by decide +kernel
theorem dX2_read_155 : decode cX2_read 155 = .ok (.getfield 12, 3) := by decide +kernel
theorem dX2_read_158 : decode cX2_read 158 = .ok (.invokevirtual 74, 3) := by decide +kernel
theorem dX2_read_161 : decode cX2_read 161 = .ok (.aload_n 0, 1) := by decide +kernel
theorem dX2_read_162 : decode cX2_read 162 = .ok (.getfield 29, 3) := by decide +kernel
theorem dX2_read_165 : decode cX2_read 165 = .ok (.ireturn, 1) := by decide +kernel
set_option maxRecDepth 20000 in
theorem ggX2_readItem_X5_charOf : GoodIn wsX2_readItem wsX5_charOf := goodIn_r _ [7, 8, 9, 104, 105] (by decide +kernel) (by decide +kernel)
set_option maxRecDepth 20000 in
theorem gX2_readItem_X5_charOf : GoodIn wsX2_readItem (wsV RX2 75 RX5 yX5_charOf wsX5_charOf) := goodIn_app (goodIn_of _ (by decide +kernel)) ggX2_readItem_X5_charOf
set_option maxRecDepth 20000 in
theorem ggX2_readItem_X2_readPick : GoodIn wsX2_readItem wsX2_readPick := goodIn_r _ [14, 2, 15, 16, 17, 18, 13, 19, 1, 20, 21, 22, 23, 24, 3, 4, 5, 6, 7, 8, 9, 25, 26, 27, 28, 29, 30, 31, 32, 33, 34, 35, 36, 37, 38, 39, 40, 41, 42, 43, 44, 45, 46, 47, 48, 49, 50, 95, 96, 97, 98, 99, 100, 101, 102, 103, 104, 105, 106, 107, 108, 109, 110, 111, 112, 113, 114, 115, 116] (by decide +kernel) (by decide +kernel)
set_option maxRecDepth 20000 in
theorem gX2_readItem_X2_readPick : GoodIn wsX2_readItem (wsV RX2 78 RX2 yX2_readPick wsX2_readPick) := goodIn_app (goodIn_of _ (by decide +kernel)) ggX2_readItem_X2_readPick
set_option maxRecDepth 20000 in
theorem ggX2_readItem_X2_readCarrier : GoodIn wsX2_readItem wsX2_readCarrier := goodIn_r _ [54, 2, 15, 55, 46, 16, 17, 18, 13, 19, 1, 20, 21, 22, 23, 24, 3, 4, 5, 6, 7, 8, 9, 25, 26, 27, 28, 29, 30, 31, 32, 33, 34, 35, 36, 37, 38, 39, 40, 95, 96, 97, 98, 99, 100, 101, 102, 103, 104, 105, 106, 107, 108, 109, 110, 111, 112, 113, 114, 115, 116] (by decide +kernel) (by decide +kernel)
set_option maxRecDepth 20000 in
theorem gX2_readItem_X2_readCarrier : GoodIn wsX2_readItem (wsV RX2 81 RX2 yX2_readCarrier wsX2_readCarrier) := goodIn_app (goodIn_of _ (by decide +kernel)) ggX2_readItem_X2_readCarrier
set_option maxRecDepth 20000 in
theorem ggX2_readItem_X2_readDensity : GoodIn wsX2_readItem wsX2_readDensity := goodIn_r _ [59, 2, 15, 60, 46, 16, 17, 18, 13, 19, 1, 20, 21, 22, 23, 24, 3, 4, 5, 6, 7, 8, 9, 25, 26, 27, 28, 29, 30, 31, 32, 61, 62, 63, 64, 33, 34, 35, 36, 37, 38, 39, 40, 95, 96, 97, 98, 99, 100, 101, 102, 103, 104, 105, 106, 107, 108, 109, 110, 111, 112, 113, 114, 115, 116] (by decide +kernel) (by decide +kernel)
set_option maxRecDepth 20000 in
theorem gX2_readItem_X2_readDensity : GoodIn wsX2_readItem (wsV RX2 84 RX2 yX2_readDensity wsX2_readDensity) := goodIn_app (goodIn_of _ (by decide +kernel)) ggX2_readItem_X2_readDensity
set_option maxRecDepth 20000 in
theorem ggX2_readItem_X2_readRepeat : GoodIn wsX2_readItem wsX2_readRepeat := goodIn_r _ [68, 2, 16, 17, 18, 13, 19, 1, 20, 21, 22, 23, 24, 3, 4, 5, 6, 7, 8, 9, 25, 26, 27, 28, 29, 30, 31, 32, 69, 70, 71, 72, 46, 73, 15, 74, 75, 76, 77, 78, 79, 80, 81, 82, 45, 55, 60, 33, 34, 35, 36, 37, 38, 39, 40, 95, 96, 97, 98, 99, 100, 101, 102, 103, 104, 105, 106, 107, 108, 109, 110, 111, 112, 113, 114, 115, 116] (by decide +kernel) (by decide +kernel)
set_option maxRecDepth 20000 in
theorem gX2_readItem_X2_readRepeat : GoodIn wsX2_readItem (wsV RX2 87 RX2 yX2_readRepeat wsX2_readRepeat) := goodIn_app (goodIn_of _ (by decide +kernel)) ggX2_readItem_X2_readRepeat
set_option maxRecDepth 20000 in
theorem ggX2_readItem_X2_open : GoodIn wsX2_readItem wsX2_open := goodIn_r _ [72, 1, 2, 46, 73, 15, 74, 75, 76, 6, 77, 78, 4, 5, 7, 8, 9, 3, 28, 29, 30, 13, 31, 32, 79, 80, 81, 82, 45, 55, 60, 33, 34, 35, 36, 37, 38, 39, 40, 95, 96, 97, 98, 99, 100, 101, 102, 103, 106, 107, 108, 109, 110, 111, 112, 113, 114, 115, 116, 104, 105] (by decide +kernel) (by decide +kernel)
set_option maxRecDepth 20000 in
theorem gX2_readItem_X2_open : GoodIn wsX2_readItem (wsV RX2 90 RX2 yX2_open wsX2_open) := goodIn_app (goodIn_of _ (by decide +kernel)) ggX2_readItem_X2_open
set_option maxRecDepth 20000 in
theorem ggX2_readItem_X2_close : GoodIn wsX2_readItem wsX2_close := goodIn_r _ [86, 46, 45, 2, 55, 60, 15, 73, 28, 29, 30, 13, 31, 32, 87, 88, 89, 36, 90, 38, 91, 92, 93, 94, 40, 41, 42, 43, 44, 47, 48, 49, 23, 50, 95, 96, 97, 98, 99, 100, 101, 102, 103, 106, 107, 108, 109, 110, 111, 112, 113, 114, 115, 116] (by decide +kernel) (by decide +kernel)
set_option maxRecDepth 20000 in
theorem gX2_readItem_X2_close : GoodIn wsX2_readItem (wsV RX2 94 RX2 yX2_close wsX2_close) := goodIn_app (goodIn_of _ (by decide +kernel)) ggX2_readItem_X2_close
set_option maxRecDepth 20000 in
theorem ggX2_readItem_X2_faultAt : GoodIn wsX2_readItem wsX2_faultAt := goodIn_r _ [31, 32, 95, 96, 97, 98, 99, 100, 101, 102, 103] (by decide +kernel) (by decide +kernel)
set_option maxRecDepth 20000 in
theorem gX2_readItem_X2_faultAt : GoodIn wsX2_readItem (wsV RX2 65 RX2 yX2_faultAt wsX2_faultAt) := goodIn_app (goodIn_of _ (by decide +kernel)) ggX2_readItem_X2_faultAt
theorem dX2_readItem_0 : decode cX2_readItem 0 = .ok (.aload_n 0, 1) := by decide +kernel
theorem dX2_readItem_1 : decode cX2_readItem 1 = .ok (.getfield 12, 3) := by decide +kernel
theorem dX2_readItem_4 : decode cX2_readItem 4 = .ok (.aload_n 0, 1) := by decide +kernel
theorem dX2_readItem_5 : decode cX2_readItem 5 = .ok (.getfield 25, 3) := by decide +kernel
theorem dX2_readItem_8 : decode cX2_readItem 8 = .ok (.invokevirtual 75, 3) := by decide +kernel
theorem dX2_readItem_11 : decode cX2_readItem 11 = .ok (.lookupswitch 111 #[(41, 104), (99, 64), (100, 71), (104, 57), (109, 85), (114, 78)], 57) := by decide +kernel
theorem dX2_readItem_68 : decode cX2_readItem 68 = .ok (.aload_n 0, 1) := by decide +kernel
theorem dX2_readItem_69 : decode cX2_readItem 69 = .ok (.invokevirtual 78, 3) := by decide +kernel
theorem dX2_readItem_72 : decode cX2_readItem 72 = .ok (.goto 58, 3) := by decide +kernel
theorem dX2_readItem_75 : decode cX2_readItem 75 = .ok (.aload_n 0, 1) := by decide +kernel
theorem dX2_readItem_76 : decode cX2_readItem 76 = .ok (.invokevirtual 81, 3) := by decide +kernel
theorem dX2_readItem_79 : decode cX2_readItem 79 = .ok (.goto 51, 3) := by decide +kernel
theorem dX2_readItem_82 : decode cX2_readItem 82 = .ok (.aload_n 0, 1) := by decide +kernel
theorem dX2_readItem_83 : decode cX2_readItem 83 = .ok (.invokevirtual 84, 3) := by decide +kernel
theorem dX2_readItem_86 : decode cX2_readItem 86 = .ok (.goto 44, 3) := by decide +kernel
theorem dX2_readItem_89 : decode cX2_readItem 89 = .ok (.aload_n 0, 1) := by decide +kernel
theorem dX2_readItem_90 : decode cX2_readItem 90 = .ok (.invokevirtual 87, 3) := by decide +kernel
theorem dX2_readItem_93 : decode cX2_readItem 93 = .ok (.goto 37, 3) := by decide +kernel
theorem dX2_readItem_96 : decode cX2_readItem 96 = .ok (.aload_n 0, 1) := by decide +kernel
theorem dX2_readItem_97 : decode cX2_readItem 97 = .ok (.dup, 1) := by decide +kernel
theorem dX2_readItem_98 : decode cX2_readItem 98 = .ok (.getfield 25, 3) := by decide +kernel
theorem dX2_readItem_101 : decode cX2_readItem 101 = .ok (.iconst 1, 1) := by decide +kernel
theorem dX2_readItem_102 : decode cX2_readItem 102 = .ok (.iadd, 1) := by decide +kernel
theorem dX2_readItem_103 : decode cX2_readItem 103 = .ok (.putfield 25, 3) := by decide +kernel
theorem dX2_readItem_106 : decode cX2_readItem 106 = .ok (.aload_n 0, 1) := by decide +kernel
theorem dX2_readItem_107 : decode cX2_readItem 107 = .ok (.iconst 4, 1) := by decide +kernel
theorem dX2_readItem_108 : decode cX2_readItem 108 = .ok (.iconst 2, 1) := by decide +kernel
theorem dX2_readItem_109 : decode cX2_readItem 109 = .ok (.invokevirtual 90, 3) := by decide +kernel
theorem dX2_readItem_112 : decode cX2_readItem 112 = .ok (.goto 18, 3) := by decide +kernel
theorem dX2_readItem_115 : decode cX2_readItem 115 = .ok (.aload_n 0, 1) := by decide +kernel
theorem dX2_readItem_116 : decode cX2_readItem 116 = .ok (.invokevirtual 94, 3) := by decide +kernel
theorem dX2_readItem_119 : decode cX2_readItem 119 = .ok (.goto 11, 3) := by decide +kernel
theorem dX2_readItem_122 : decode cX2_readItem 122 = .ok (.aload_n 0, 1) := by decide +kernel
theorem dX2_readItem_123 : decode cX2_readItem 123 = .ok (.aload_n 0, 1) := by decide +kernel
theorem dX2_readItem_124 : decode cX2_readItem 124 = .ok (.getfield 25, 3) := by decide +kernel
theorem dX2_readItem_127 : decode cX2_readItem 127 = .ok (.invokevirtual 65, 3) := by decide +kernel
theorem dX2_readItem_130 : decode cX2_readItem 130 = .ok (.return_, 1) := by decide +kernel
set_option maxRecDepth 20000 in
theorem ggX2_readPick_X2_readDigits : GoodIn wsX2_readPick wsX2_readDigits := goodIn_r _ [7, 1, 8, 9, 10, 11, 12, 13, 14, 15, 16, 17, 18, 19, 20, 21, 22, 6, 23, 24, 25, 26, 27, 28, 47, 48, 49, 50, 51, 52, 53, 54, 55, 56, 57] (by decide +kernel) (by decide +kernel)
set_option maxRecDepth 20000 in
theorem gX2_readPick_X2_readDigits : GoodIn wsX2_readPick (wsV RX2 97 RX2 yX2_readDigits wsX2_readDigits) := goodIn_app (goodIn_of _ (by decide +kernel)) ggX2_readPick_X2_readDigits
set_option maxRecDepth 20000 in
theorem ggX2_readPick_X1_add : GoodIn wsX2_readPick wsX1_add := goodIn_r _ [33, 34, 35, 36, 58, 59, 60, 61, 62, 63, 64, 65, 66, 67, 68] (by decide +kernel) (by decide +kernel)
set_option maxRecDepth 20000 in
theorem gX2_readPick_X1_add : GoodIn wsX2_readPick (wsV RX2 101 RX1 yX1_add wsX1_add) := goodIn_app (goodIn_of _ (by decide +kernel)) ggX2_readPick_X1_add
set_option maxRecDepth 20000 in
theorem ggX2_readPick_X2_addPicks : GoodIn wsX2_readPick wsX2_addPicks := goodIn_r _ [40, 41, 42, 43, 44, 45, 12, 46, 47, 48, 49, 50, 51, 52, 53, 54, 55] (by decide +kernel) (by decide +kernel)
set_option maxRecDepth 20000 in
theorem gX2_readPick_X2_addPicks : GoodIn wsX2_readPick (wsV RX2 104 RX2 yX2_addPicks wsX2_addPicks) := goodIn_app (goodIn_of _ (by decide +kernel)) ggX2_readPick_X2_addPicks
theorem dX2_readPick_0 : decode cX2_readPick 0 = .ok (.aload_n 0, 1) := by decide +kernel
theorem dX2_readPick_1 : decode cX2_readPick 1 = .ok (.dup, 1) := by decide +kernel
theorem dX2_readPick_2 : decode cX2_readPick 2 = .ok (.getfield 25, 3) := by decide +kernel
theorem dX2_readPick_5 : decode cX2_readPick 5 = .ok (.iconst 1, 1) := by decide +kernel
theorem dX2_readPick_6 : decode cX2_readPick 6 = .ok (.iadd, 1) := by decide +kernel
theorem dX2_readPick_7 : decode cX2_readPick 7 = .ok (.putfield 25, 3) := by decide +kernel
theorem dX2_readPick_10 : decode cX2_readPick 10 = .ok (.aload_n 0, 1) := by decide +kernel
theorem dX2_readPick_11 : decode cX2_readPick 11 = .ok (.getfield 21, 3) := by decide +kernel
theorem dX2_readPick_14 : decode cX2_readPick 14 = .ok (.iconst 0, 1) := by decide +kernel
theorem dX2_readPick_15 : decode cX2_readPick 15 = .ok (.aload_n 0, 1) := by decide +kernel
theorem dX2_readPick_16 : decode cX2_readPick 16 = .ok (.bipush 16, 2) := by decide +kernel
theorem dX2_readPick_18 : decode cX2_readPick 18 = .ok (.bipush 6, 2) := by decide +kernel
theorem dX2_readPick_20 : decode cX2_readPick 20 = .ok (.invokevirtual 97, 3) := by decide +kernel
theorem dX2_readPick_23 : decode cX2_readPick 23 = .ok (.invokevirtual 101, 3) := by decide +kernel
theorem dX2_readPick_26 : decode cX2_readPick 26 = .ok (.aload_n 0, 1) := by decide +kernel
theorem dX2_readPick_27 : decode cX2_readPick 27 = .ok (.lconst 1, 1) := by decide +kernel
theorem dX2_readPick_28 : decode cX2_readPick 28 = .ok (.invokevirtual 104, 3) := by decide +kernel
theorem dX2_readPick_31 : decode cX2_readPick 31 = .ok (.return_, 1) := by decide +kernel
set_option maxRecDepth 20000 in
theorem ggX2_readCarrier_X2_readDigits : GoodIn wsX2_readCarrier wsX2_readDigits := goodIn_r _ [9, 1, 10, 11, 12, 13, 14, 15, 16, 17, 18, 19, 20, 21, 22, 23, 24, 8, 25, 26, 27, 28, 29, 30, 39, 40, 41, 42, 43, 44, 45, 46, 47, 48, 49] (by decide +kernel) (by decide +kernel)
set_option maxRecDepth 20000 in
theorem gX2_readCarrier_X2_readDigits : GoodIn wsX2_readCarrier (wsV RX2 97 RX2 yX2_readDigits wsX2_readDigits) := goodIn_app (goodIn_of _ (by decide +kernel)) ggX2_readCarrier_X2_readDigits
set_option maxRecDepth 20000 in
theorem ggX2_readCarrier_X1_add : GoodIn wsX2_readCarrier wsX1_add := goodIn_r _ [35, 36, 37, 38, 50, 51, 52, 53, 54, 55, 56, 57, 58, 59, 60] (by decide +kernel) (by decide +kernel)
set_option maxRecDepth 20000 in
theorem gX2_readCarrier_X1_add : GoodIn wsX2_readCarrier (wsV RX2 101 RX1 yX1_add wsX1_add) := goodIn_app (goodIn_of _ (by decide +kernel)) ggX2_readCarrier_X1_add
theorem dX2_readCarrier_0 : decode cX2_readCarrier 0 = .ok (.aload_n 0, 1) := by decide +kernel
theorem dX2_readCarrier_1 : decode cX2_readCarrier 1 = .ok (.dup, 1) := by decide +kernel
theorem dX2_readCarrier_2 : decode cX2_readCarrier 2 = .ok (.getfield 25, 3) := by decide +kernel
theorem dX2_readCarrier_5 : decode cX2_readCarrier 5 = .ok (.iconst 1, 1) := by decide +kernel
theorem dX2_readCarrier_6 : decode cX2_readCarrier 6 = .ok (.iadd, 1) := by decide +kernel
theorem dX2_readCarrier_7 : decode cX2_readCarrier 7 = .ok (.putfield 25, 3) := by decide +kernel
theorem dX2_readCarrier_10 : decode cX2_readCarrier 10 = .ok (.aload_n 0, 1) := by decide +kernel
theorem dX2_readCarrier_11 : decode cX2_readCarrier 11 = .ok (.bipush 8, 2) := by decide +kernel
theorem dX2_readCarrier_13 : decode cX2_readCarrier 13 = .ok (.iconst 1, 1) := by decide +kernel
theorem dX2_readCarrier_14 : decode cX2_readCarrier 14 = .ok (.invokevirtual 97, 3) := by decide +kernel
theorem dX2_readCarrier_17 : decode cX2_readCarrier 17 = .ok (.istore_n 1, 1) := by decide +kernel
theorem dX2_readCarrier_18 : decode cX2_readCarrier 18 = .ok (.aload_n 0, 1) := by decide +kernel
theorem dX2_readCarrier_19 : decode cX2_readCarrier 19 = .ok (.getfield 21, 3) := by decide +kernel
theorem dX2_readCarrier_22 : decode cX2_readCarrier 22 = .ok (.iconst 1, 1) := by decide +kernel
theorem dX2_readCarrier_23 : decode cX2_readCarrier 23 = .ok (.iload_n 1, 1) := by decide +kernel
theorem dX2_readCarrier_24 : decode cX2_readCarrier 24 = .ok (.invokevirtual 101, 3) := by decide +kernel
theorem dX2_readCarrier_27 : decode cX2_readCarrier 27 = .ok (.aload_n 0, 1) := by decide +kernel
theorem dX2_readCarrier_28 : decode cX2_readCarrier 28 = .ok (.getfield 43, 3) := by decide +kernel
theorem dX2_readCarrier_31 : decode cX2_readCarrier 31 = .ok (.aload_n 0, 1) := by decide +kernel
theorem dX2_readCarrier_32 : decode cX2_readCarrier 32 = .ok (.getfield 32, 3) := by decide +kernel
theorem dX2_readCarrier_35 : decode cX2_readCarrier 35 = .ok (.iload_n 1, 1) := by decide +kernel
theorem dX2_readCarrier_36 : decode cX2_readCarrier 36 = .ok (.iastore, 1) := by decide +kernel
theorem dX2_readCarrier_37 : decode cX2_readCarrier 37 = .ok (.return_, 1) := by decide +kernel
set_option maxRecDepth 20000 in
theorem ggX2_readDensity_X2_readDigits : GoodIn wsX2_readDensity wsX2_readDigits := goodIn_r _ [9, 1, 10, 11, 12, 13, 14, 15, 16, 17, 18, 19, 20, 21, 22, 23, 24, 8, 25, 26, 27, 28, 29, 30, 43, 44, 45, 46, 47, 48, 49, 50, 51, 52, 53] (by decide +kernel) (by decide +kernel)
set_option maxRecDepth 20000 in
theorem gX2_readDensity_X2_readDigits : GoodIn wsX2_readDensity (wsV RX2 97 RX2 yX2_readDigits wsX2_readDigits) := goodIn_app (goodIn_of _ (by decide +kernel)) ggX2_readDensity_X2_readDigits
set_option maxRecDepth 20000 in
theorem ggX2_readDensity_X2_isAllowed : GoodIn wsX2_readDensity wsX2_isAllowed := goodIn_r _ [33, 34] (by decide +kernel) (by decide +kernel)
set_option maxRecDepth 20000 in
theorem gX2_readDensity_X2_isAllowed : GoodIn wsX2_readDensity (va_wsS RX2 108 yX2_isAllowed wsX2_isAllowed) := goodIn_app (goodIn_of _ (by decide +kernel)) ggX2_readDensity_X2_isAllowed
set_option maxRecDepth 20000 in
theorem ggX2_readDensity_X2_faultAt : GoodIn wsX2_readDensity wsX2_faultAt := goodIn_r _ [29, 30, 43, 44, 45, 46, 47, 48, 49, 50, 51] (by decide +kernel) (by decide +kernel)
set_option maxRecDepth 20000 in
theorem gX2_readDensity_X2_faultAt : GoodIn wsX2_readDensity (wsV RX2 65 RX2 yX2_faultAt wsX2_faultAt) := goodIn_app (goodIn_of _ (by decide +kernel)) ggX2_readDensity_X2_faultAt
set_option maxRecDepth 20000 in
theorem ggX2_readDensity_X1_add : GoodIn wsX2_readDensity wsX1_add := goodIn_r _ [39, 40, 41, 42, 54, 55, 56, 57, 58, 59, 60, 61, 62, 63, 64] (by decide +kernel) (by decide +kernel)
set_option maxRecDepth 20000 in
theorem gX2_readDensity_X1_add : GoodIn wsX2_readDensity (wsV RX2 101 RX1 yX1_add wsX1_add) := goodIn_app (goodIn_of _ (by decide +kernel)) ggX2_readDensity_X1_add
theorem dX2_readDensity_0 : decode cX2_readDensity 0 = .ok (.aload_n 0, 1) := by decide +kernel
theorem dX2_readDensity_1 : decode cX2_readDensity 1 = .ok (.dup, 1) := by decide +kernel
theorem dX2_readDensity_2 : decode cX2_readDensity 2 = .ok (.getfield 25, 3) := by decide +kernel
theorem dX2_readDensity_5 : decode cX2_readDensity 5 = .ok (.iconst 1, 1) := by decide +kernel
theorem dX2_readDensity_6 : decode cX2_readDensity 6 = .ok (.iadd, 1) := by decide +kernel
theorem dX2_readDensity_7 : decode cX2_readDensity 7 = .ok (.putfield 25, 3) := by decide +kernel
theorem dX2_readDensity_10 : decode cX2_readDensity 10 = .ok (.aload_n 0, 1) := by decide +kernel
theorem dX2_readDensity_11 : decode cX2_readDensity 11 = .ok (.getfield 25, 3) := by decide +kernel
theorem dX2_readDensity_14 : decode cX2_readDensity 14 = .ok (.istore_n 1, 1) := by decide +kernel
theorem dX2_readDensity_15 : decode cX2_readDensity 15 = .ok (.aload_n 0, 1) := by decide +kernel
theorem dX2_readDensity_16 : decode cX2_readDensity 16 = .ok (.bipush 10, 2) := by decide +kernel
theorem dX2_readDensity_18 : decode cX2_readDensity 18 = .ok (.sipush 160, 3) := by decide +kernel
theorem dX2_readDensity_21 : decode cX2_readDensity 21 = .ok (.invokevirtual 97, 3) := by decide +kernel
theorem dX2_readDensity_24 : decode cX2_readDensity 24 = .ok (.istore_n 2, 1) := by decide +kernel
theorem dX2_readDensity_25 : decode cX2_readDensity 25 = .ok (.iload_n 2, 1) := by decide +kernel
theorem dX2_readDensity_26 : decode cX2_readDensity 26 = .ok (.invokestatic 108, 3) := by decide +kernel
theorem dX2_readDensity_29 : decode cX2_readDensity 29 = .ok (.ifCond .ne 8, 3) := by decide +kernel
theorem dX2_readDensity_32 : decode cX2_readDensity 32 = .ok (.aload_n 0, 1) := by decide +kernel
theorem dX2_readDensity_33 : decode cX2_readDensity 33 = .ok (.iload_n 1, 1) := by decide +kernel
theorem dX2_readDensity_34 : decode cX2_readDensity 34 = .ok (.invokevirtual 65, 3) := by decide +kernel
theorem dX2_readDensity_37 : decode cX2_readDensity 37 = .ok (.aload_n 0, 1) := by decide +kernel
theorem dX2_readDensity_38 : decode cX2_readDensity 38 = .ok (.getfield 21, 3) := by decide +kernel
theorem dX2_readDensity_41 : decode cX2_readDensity 41 = .ok (.iconst 2, 1) := by decide +kernel
theorem dX2_readDensity_42 : decode cX2_readDensity 42 = .ok (.iload_n 2, 1) := by decide +kernel
theorem dX2_readDensity_43 : decode cX2_readDensity 43 = .ok (.invokevirtual 101, 3) := by decide +kernel
theorem dX2_readDensity_46 : decode cX2_readDensity 46 = .ok (.aload_n 0, 1) := by decide +kernel
theorem dX2_readDensity_47 : decode cX2_readDensity 47 = .ok (.getfield 46, 3) := by decide +kernel
theorem dX2_readDensity_50 : decode cX2_readDensity 50 = .ok (.aload_n 0, 1) := by decide +kernel
theorem dX2_readDensity_51 : decode cX2_readDensity 51 = .ok (.getfield 32, 3) := by decide +kernel
theorem dX2_readDensity_54 : decode cX2_readDensity 54 = .ok (.iload_n 2, 1) := by decide +kernel
theorem dX2_readDensity_55 : decode cX2_readDensity 55 = .ok (.iastore, 1) := by decide +kernel
theorem dX2_readDensity_56 : decode cX2_readDensity 56 = .ok (.return_, 1) := by decide +kernel
set_option maxRecDepth 20000 in
theorem ggX2_readRepeat_X2_readDigits : GoodIn wsX2_readRepeat wsX2_readDigits := goodIn_r _ [6, 1, 7, 8, 9, 10, 11, 12, 13, 14, 15, 16, 17, 18, 19, 20, 21, 5, 22, 23, 24, 25, 26, 27, 55, 56, 57, 58, 59, 60, 61, 62, 63, 64, 65] (by decide +kernel) (by decide +kernel)
set_option maxRecDepth 20000 in
theorem gX2_readRepeat_X2_readDigits : GoodIn wsX2_readRepeat (wsV RX2 97 RX2 yX2_readDigits wsX2_readDigits) := goodIn_app (goodIn_of _ (by decide +kernel)) ggX2_readRepeat_X2_readDigits
set_option maxRecDepth 20000 in
theorem ggX2_readRepeat_X2_faultAt : GoodIn wsX2_readRepeat wsX2_faultAt := goodIn_r _ [26, 27, 55, 56, 57, 58, 59, 60, 61, 62, 63] (by decide +kernel) (by decide +kernel)
set_option maxRecDepth 20000 in
theorem gX2_readRepeat_X2_faultAt : GoodIn wsX2_readRepeat (wsV RX2 65 RX2 yX2_faultAt wsX2_faultAt) := goodIn_app (goodIn_of _ (by decide +kernel)) ggX2_readRepeat_X2_faultAt
set_option maxRecDepth 20000 in
theorem ggX2_readRepeat_X2_open : GoodIn wsX2_readRepeat wsX2_open := goodIn_r _ [31, 7, 1, 32, 33, 34, 35, 36, 37, 16, 38, 39, 14, 15, 17, 18, 19, 13, 23, 24, 25, 5, 26, 27, 40, 41, 42, 43, 44, 45, 46, 47, 48, 49, 50, 51, 52, 53, 54, 55, 56, 57, 58, 59, 60, 61, 62, 63, 66, 67, 68, 69, 70, 71, 72, 73, 74, 75, 76, 64, 65] (by decide +kernel) (by decide +kernel)
set_option maxRecDepth 20000 in
theorem gX2_readRepeat_X2_open : GoodIn wsX2_readRepeat (wsV RX2 90 RX2 yX2_open wsX2_open) := goodIn_app (goodIn_of _ (by decide +kernel)) ggX2_readRepeat_X2_open
theorem dX2_readRepeat_0 : decode cX2_readRepeat 0 = .ok (.aload_n 0, 1) := by decide +kernel
theorem dX2_readRepeat_1 : decode cX2_readRepeat 1 = .ok (.dup, 1) := by decide +kernel
theorem dX2_readRepeat_2 : decode cX2_readRepeat 2 = .ok (.getfield 25, 3) := by decide +kernel
theorem dX2_readRepeat_5 : decode cX2_readRepeat 5 = .ok (.iconst 1, 1) := by decide +kernel
theorem dX2_readRepeat_6 : decode cX2_readRepeat 6 = .ok (.iadd, 1) := by decide +kernel
theorem dX2_readRepeat_7 : decode cX2_readRepeat 7 = .ok (.putfield 25, 3) := by decide +kernel
theorem dX2_readRepeat_10 : decode cX2_readRepeat 10 = .ok (.aload_n 0, 1) := by decide +kernel
theorem dX2_readRepeat_11 : decode cX2_readRepeat 11 = .ok (.getfield 25, 3) := by decide +kernel
theorem dX2_readRepeat_14 : decode cX2_readRepeat 14 = .ok (.istore_n 1, 1) := by decide +kernel
theorem dX2_readRepeat_15 : decode cX2_readRepeat 15 = .ok (.aload_n 0, 1) := by decide +kernel
theorem dX2_readRepeat_16 : decode cX2_readRepeat 16 = .ok (.bipush 10, 2) := by decide +kernel
theorem dX2_readRepeat_18 : decode cX2_readRepeat 18 = .ok (.iconst 4, 1) := by decide +kernel
theorem dX2_readRepeat_19 : decode cX2_readRepeat 19 = .ok (.invokevirtual 97, 3) := by decide +kernel
theorem dX2_readRepeat_22 : decode cX2_readRepeat 22 = .ok (.istore_n 2, 1) := by decide +kernel
theorem dX2_readRepeat_23 : decode cX2_readRepeat 23 = .ok (.iload_n 2, 1) := by decide +kernel
theorem dX2_readRepeat_24 : decode cX2_readRepeat 24 = .ok (.ifCond .ne 8, 3) := by decide +kernel
theorem dX2_readRepeat_27 : decode cX2_readRepeat 27 = .ok (.aload_n 0, 1) := by decide +kernel
theorem dX2_readRepeat_28 : decode cX2_readRepeat 28 = .ok (.iload_n 1, 1) := by decide +kernel
theorem dX2_readRepeat_29 : decode cX2_readRepeat 29 = .ok (.invokevirtual 65, 3) := by decide +kernel
theorem dX2_readRepeat_32 : decode cX2_readRepeat 32 = .ok (.aload_n 0, 1) := by decide +kernel
theorem dX2_readRepeat_33 : decode cX2_readRepeat 33 = .ok (.iconst 3, 1) := by decide +kernel
theorem dX2_readRepeat_34 : decode cX2_readRepeat 34 = .ok (.iload_n 2, 1) := by decide +kernel
theorem dX2_readRepeat_35 : decode cX2_readRepeat 35 = .ok (.invokevirtual 90, 3) := by decide +kernel
theorem dX2_readRepeat_38 : decode cX2_readRepeat 38 = .ok (.return_, 1) := by decide +kernel
set_option maxRecDepth 20000 in
theorem ggX2_open_X5_behindBlanks : GoodIn wsX2_open wsX5_behindBlanks := goodIn_r _ [10, 11, 12, 13, 9, 14, 15, 16, 59, 60] (by decide +kernel) (by decide +kernel)
set_option maxRecDepth 20000 in
theorem gX2_open_X5_behindBlanks : GoodIn wsX2_open (wsV RX2 52 RX5 yX5_behindBlanks wsX5_behindBlanks) := goodIn_app (goodIn_of _ (by decide +kernel)) ggX2_open_X5_behindBlanks
set_option maxRecDepth 20000 in
theorem ggX2_open_X5_charOf : GoodIn wsX2_open wsX5_charOf := goodIn_r _ [14, 15, 16, 59, 60] (by decide +kernel) (by decide +kernel)
set_option maxRecDepth 20000 in
theorem gX2_open_X5_charOf : GoodIn wsX2_open (wsV RX2 75 RX5 yX5_charOf wsX5_charOf) := goodIn_app (goodIn_of _ (by decide +kernel)) ggX2_open_X5_charOf
set_option maxRecDepth 20000 in
theorem ggX2_open_X2_faultAt : GoodIn wsX2_open wsX2_faultAt := goodIn_r _ [22, 23, 39, 40, 41, 42, 43, 44, 45, 46, 47] (by decide +kernel) (by decide +kernel)
set_option maxRecDepth 20000 in
theorem gX2_open_X2_faultAt : GoodIn wsX2_open (wsV RX2 65 RX2 yX2_faultAt wsX2_faultAt) := goodIn_app (goodIn_of _ (by decide +kernel)) ggX2_open_X2_faultAt
set_option maxRecDepth 20000 in
theorem ggX2_open_X2_beginLevel : GoodIn wsX2_open wsX2_beginLevel := goodIn_r _ [27, 4, 3, 28, 29, 30, 39, 40, 41, 42, 43, 44, 45, 46, 47] (by decide +kernel) (by decide +kernel)
set_option maxRecDepth 20000 in
theorem gX2_open_X2_beginLevel : GoodIn wsX2_open (wsV RX2 56 RX2 yX2_beginLevel wsX2_beginLevel) := goodIn_app (goodIn_of _ (by decide +kernel)) ggX2_open_X2_beginLevel
set_option maxRecDepth 20000 in
theorem ggX2_open_X1_add : GoodIn wsX2_open wsX1_add := goodIn_r _ [35, 36, 37, 38, 48, 49, 50, 51, 52, 53, 54, 55, 56, 57, 58] (by decide +kernel) (by decide +kernel)
set_option maxRecDepth 20000 in
theorem gX2_open_X1_add : GoodIn wsX2_open (wsV RX2 101 RX1 yX1_add wsX1_add) := goodIn_app (goodIn_of _ (by decide +kernel)) ggX2_open_X1_add
theorem dX2_open_0 : decode cX2_open 0 = .ok (.aload_n 0, 1) := by decide +kernel
theorem dX2_open_1 : decode cX2_open 1 = .ok (.aload_n 0, 1) := by decide +kernel
theorem dX2_open_2 : decode cX2_open 2 = .ok (.getfield 12, 3) := by decide +kernel
theorem dX2_open_5 : decode cX2_open 5 = .ok (.aload_n 0, 1) := by decide +kernel
theorem dX2_open_6 : decode cX2_open 6 = .ok (.getfield 25, 3) := by decide +kernel
theorem dX2_open_9 : decode cX2_open 9 = .ok (.invokevirtual 52, 3) := by decide +kernel
theorem dX2_open_12 : decode cX2_open 12 = .ok (.putfield 25, 3) := by decide +kernel
theorem dX2_open_15 : decode cX2_open 15 = .ok (.aload_n 0, 1) := by decide +kernel
theorem dX2_open_16 : decode cX2_open 16 = .ok (.getfield 12, 3) := by decide +kernel
theorem dX2_open_19 : decode cX2_open 19 = .ok (.aload_n 0, 1) := by decide +kernel
theorem dX2_open_20 : decode cX2_open 20 = .ok (.getfield 25, 3) := by decide +kernel
theorem dX2_open_23 : decode cX2_open 23 = .ok (.invokevirtual 75, 3) := by decide +kernel
theorem dX2_open_26 : decode cX2_open 26 = .ok (.bipush 40, 2) := by decide +kernel
theorem dX2_open_28 : decode cX2_open 28 = .ok (.if_icmp .ne 12, 3) := by decide +kernel
theorem dX2_open_31 : decode cX2_open 31 = .ok (.aload_n 0, 1) := by decide +kernel
theorem dX2_open_32 : decode cX2_open 32 = .ok (.getfield 32, 3) := by decide +kernel
theorem dX2_open_35 : decode cX2_open 35 = .ok (.bipush 6, 2) := by decide +kernel
theorem dX2_open_37 : decode cX2_open 37 = .ok (.if_icmp .lt 12, 3) := by decide +kernel
theorem dX2_open_40 : decode cX2_open 40 = .ok (.aload_n 0, 1) := by decide +kernel
theorem dX2_open_41 : decode cX2_open 41 = .ok (.aload_n 0, 1) := by decide +kernel
theorem dX2_open_42 : decode cX2_open 42 = .ok (.getfield 25, 3) := by decide +kernel
theorem dX2_open_45 : decode cX2_open 45 = .ok (.invokevirtual 65, 3) := by decide +kernel
theorem dX2_open_48 : decode cX2_open 48 = .ok (.return_, 1) := by decide +kernel
theorem dX2_open_49 : decode cX2_open 49 = .ok (.aload_n 0, 1) := by decide +kernel
theorem dX2_open_50 : decode cX2_open 50 = .ok (.dup, 1) := by decide +kernel
theorem dX2_open_51 : decode cX2_open 51 = .ok (.getfield 25, 3) := by decide +kernel
theorem dX2_open_54 : decode cX2_open 54 = .ok (.iconst 1, 1) := by decide +kernel
theorem dX2_open_55 : decode cX2_open 55 = .ok (.iadd, 1) := by decide +kernel
theorem dX2_open_56 : decode cX2_open 56 = .ok (.putfield 25, 3) := by decide +kernel
theorem dX2_open_59 : decode cX2_open 59 = .ok (.aload_n 0, 1) := by decide +kernel
theorem dX2_open_60 : decode cX2_open 60 = .ok (.dup, 1) := by decide +kernel
theorem dX2_open_61 : decode cX2_open 61 = .ok (.getfield 32, 3) := by decide +kernel
theorem dX2_open_64 : decode cX2_open 64 = .ok (.iconst 1, 1) := by decide +kernel
theorem dX2_open_65 : decode cX2_open 65 = .ok (.iadd, 1) := by decide +kernel
theorem dX2_open_66 : decode cX2_open 66 = .ok (.putfield 32, 3) := by decide +kernel
theorem dX2_open_69 : decode cX2_open 69 = .ok (.aload_n 0, 1) := by decide +kernel
theorem dX2_open_70 : decode cX2_open 70 = .ok (.invokevirtual 56, 3) := by decide +kernel
theorem dX2_open_73 : decode cX2_open 73 = .ok (.aload_n 0, 1) := by decide +kernel
theorem dX2_open_74 : decode cX2_open 74 = .ok (.getfield 35, 3) := by decide +kernel
theorem dX2_open_77 : decode cX2_open 77 = .ok (.aload_n 0, 1) := by decide +kernel
theorem dX2_open_78 : decode cX2_open 78 = .ok (.getfield 32, 3) := by decide +kernel
theorem dX2_open_81 : decode cX2_open 81 = .ok (.aload_n 0, 1) := by decide +kernel
theorem dX2_open_82 : decode cX2_open 82 = .ok (.getfield 21, 3) := by decide +kernel
theorem dX2_open_85 : decode cX2_open 85 = .ok (.getfield 112, 3) := by decide +kernel
theorem dX2_open_88 : decode cX2_open 88 = .ok (.iastore, 1) := by decide +kernel
theorem dX2_open_89 : decode cX2_open 89 = .ok (.aload_n 0, 1) := by decide +kernel
theorem dX2_open_90 : decode cX2_open 90 = .ok (.getfield 21, 3) := by decide +kernel
theorem dX2_open_93 : decode cX2_open 93 = .ok (.iload_n 1, 1) := by decide +kernel
theorem dX2_open_94 : decode cX2_open 94 = .ok (.iload_n 2, 1) := by decide +kernel
theorem dX2_open_95 : decode cX2_open 95 = .ok (.invokevirtual 101, 3) := by decide +kernel
theorem dX2_open_98 : decode cX2_open 98 = .ok (.return_, 1) := by decide +kernel
set_option maxRecDepth 20000 in
theorem ggX2_close_X2_faultAt : GoodIn wsX2_close wsX2_faultAt := goodIn_r _ [12, 13, 34, 35, 36, 37, 38, 39, 40, 41, 42] (by decide +kernel) (by decide +kernel)
set_option maxRecDepth 20000 in
theorem gX2_close_X2_faultAt : GoodIn wsX2_close (wsV RX2 65 RX2 yX2_faultAt wsX2_faultAt) := goodIn_app (goodIn_of _ (by decide +kernel)) ggX2_close_X2_faultAt
set_option maxRecDepth 20000 in
theorem ggX2_close_X1_end : GoodIn wsX2_close wsX1_end := goodIn_r _ [18, 19, 20, 21, 22, 23, 24, 43, 44, 45, 46, 47, 48, 49, 50, 51, 52, 53] (by decide +kernel) (by decide +kernel)
set_option maxRecDepth 20000 in
theorem gX2_close_X1_end : GoodIn wsX2_close (wsV RX2 113 RX1 yX1_end wsX1_end) := goodIn_app (goodIn_of _ (by decide +kernel)) ggX2_close_X1_end
set_option maxRecDepth 20000 in
theorem ggX2_close_X2_addPicks : GoodIn wsX2_close wsX2_addPicks := goodIn_r _ [28, 2, 1, 29, 30, 31, 32, 33, 34, 35, 36, 37, 38, 39, 40, 41, 42] (by decide +kernel) (by decide +kernel)
set_option maxRecDepth 20000 in
theorem gX2_close_X2_addPicks : GoodIn wsX2_close (wsV RX2 104 RX2 yX2_addPicks wsX2_addPicks) := goodIn_app (goodIn_of _ (by decide +kernel)) ggX2_close_X2_addPicks
theorem dX2_close_0 : decode cX2_close 0 = .ok (.aload_n 0, 1) := by decide +kernel
theorem dX2_close_1 : decode cX2_close 1 = .ok (.getfield 32, 3) := by decide +kernel
theorem dX2_close_4 : decode cX2_close 4 = .ok (.ifCond .le 17, 3) := by decide +kernel
theorem dX2_close_7 : decode cX2_close 7 = .ok (.aload_n 0, 1) := by decide +kernel
theorem dX2_close_8 : decode cX2_close 8 = .ok (.getfield 39, 3) := by decide +kernel
theorem dX2_close_11 : decode cX2_close 11 = .ok (.aload_n 0, 1) := by decide +kernel
theorem dX2_close_12 : decode cX2_close 12 = .ok (.getfield 32, 3) := by decide +kernel
theorem dX2_close_15 : decode cX2_close 15 = .ok (.laload, 1) := by decide +kernel
theorem dX2_close_16 : decode cX2_close 16 = .ok (.lconst 0, 1) := by decide +kernel
theorem dX2_close_17 : decode cX2_close 17 = .ok (.lcmp, 1) := by decide +kernel
theorem dX2_close_18 : decode cX2_close 18 = .ok (.ifCond .ne 12, 3) := by decide +kernel
theorem dX2_close_21 : decode cX2_close 21 = .ok (.aload_n 0, 1) := by decide +kernel
theorem dX2_close_22 : decode cX2_close 22 = .ok (.aload_n 0, 1) := by decide +kernel
theorem dX2_close_23 : decode cX2_close 23 = .ok (.getfield 25, 3) := by decide +kernel
theorem dX2_close_26 : decode cX2_close 26 = .ok (.invokevirtual 65, 3) := by decide +kernel
theorem dX2_close_29 : decode cX2_close 29 = .ok (.return_, 1) := by decide +kernel
theorem dX2_close_30 : decode cX2_close 30 = .ok (.aload_n 0, 1) := by decide +kernel
theorem dX2_close_31 : decode cX2_close 31 = .ok (.dup, 1) := by decide +kernel
theorem dX2_close_32 : decode cX2_close 32 = .ok (.getfield 25, 3) := by decide +kernel
theorem dX2_close_35 : decode cX2_close 35 = .ok (.iconst 1, 1) := by decide +kernel
theorem dX2_close_36 : decode cX2_close 36 = .ok (.iadd, 1) := by decide +kernel
theorem dX2_close_37 : decode cX2_close 37 = .ok (.putfield 25, 3) := by decide +kernel
theorem dX2_close_40 : decode cX2_close 40 = .ok (.aload_n 0, 1) := by decide +kernel
theorem dX2_close_41 : decode cX2_close 41 = .ok (.getfield 43, 3) := by decide +kernel
theorem dX2_close_44 : decode cX2_close 44 = .ok (.aload_n 0, 1) := by decide +kernel
theorem dX2_close_45 : decode cX2_close 45 = .ok (.getfield 32, 3) := by decide +kernel
theorem dX2_close_48 : decode cX2_close 48 = .ok (.iaload, 1) := by decide +kernel
theorem dX2_close_49 : decode cX2_close 49 = .ok (.istore_n 1, 1) := by decide +kernel
theorem dX2_close_50 : decode cX2_close 50 = .ok (.aload_n 0, 1) := by decide +kernel
theorem dX2_close_51 : decode cX2_close 51 = .ok (.getfield 46, 3) := by decide +kernel
theorem dX2_close_54 : decode cX2_close 54 = .ok (.aload_n 0, 1) := by decide +kernel
theorem dX2_close_55 : decode cX2_close 55 = .ok (.getfield 32, 3) := by decide +kernel
theorem dX2_close_58 : decode cX2_close 58 = .ok (.iaload, 1) := by decide +kernel
theorem dX2_close_59 : decode cX2_close 59 = .ok (.istore_n 2, 1) := by decide +kernel
theorem dX2_close_60 : decode cX2_close 60 = .ok (.aload_n 0, 1) := by decide +kernel
theorem dX2_close_61 : decode cX2_close 61 = .ok (.getfield 39, 3) := by decide +kernel
theorem dX2_close_64 : decode cX2_close 64 = .ok (.aload_n 0, 1) := by decide +kernel
theorem dX2_close_65 : decode cX2_close 65 = .ok (.getfield 32, 3) := by decide +kernel
theorem dX2_close_68 : decode cX2_close 68 = .ok (.laload, 1) := by decide +kernel
theorem dX2_close_69 : decode cX2_close 69 = .ok (.lstore_n 3, 1) := by decide +kernel
theorem dX2_close_70 : decode cX2_close 70 = .ok (.aload_n 0, 1) := by decide +kernel
theorem dX2_close_71 : decode cX2_close 71 = .ok (.getfield 21, 3) := by decide +kernel
theorem dX2_close_74 : decode cX2_close 74 = .ok (.aload_n 0, 1) := by decide +kernel
theorem dX2_close_75 : decode cX2_close 75 = .ok (.getfield 35, 3) := by decide +kernel
theorem dX2_close_78 : decode cX2_close 78 = .ok (.aload_n 0, 1) := by decide +kernel
theorem dX2_close_79 : decode cX2_close 79 = .ok (.getfield 32, 3) := by decide +kernel
theorem dX2_close_82 : decode cX2_close 82 = .ok (.iaload, 1) := by decide +kernel
theorem dX2_close_83 : decode cX2_close 83 = .ok (.lload_n 3, 1) := by decide +kernel
theorem dX2_close_84 : decode cX2_close 84 = .ok (.iload_n 1, 1) := by decide +kernel
theorem dX2_close_85 : decode cX2_close 85 = .ok (.iload_n 2, 1) := by decide +kernel
theorem dX2_close_86 : decode cX2_close 86 = .ok (.invokevirtual 113, 3) := by decide +kernel
theorem dX2_close_89 : decode cX2_close 89 = .ok (.istore 5, 2) := by decide +kernel
theorem dX2_close_91 : decode cX2_close 91 = .ok (.aload_n 0, 1) := by decide +kernel
theorem dX2_close_92 : decode cX2_close 92 = .ok (.dup, 1) := by decide +kernel
theorem dX2_close_93 : decode cX2_close 93 = .ok (.getfield 32, 3) := by decide +kernel
theorem dX2_close_96 : decode cX2_close 96 = .ok (.iconst 1, 1) := by decide +kernel
theorem dX2_close_97 : decode cX2_close 97 = .ok (.isub, 1) := by decide +kernel
theorem dX2_close_98 : decode cX2_close 98 = .ok (.putfield 32, 3) := by decide +kernel
theorem dX2_close_101 : decode cX2_close 101 = .ok (.aload_n 0, 1) := by decide +kernel
theorem dX2_close_102 : decode cX2_close 102 = .ok (.lload_n 3, 1) := by decide +kernel
theorem dX2_close_103 : decode cX2_close 103 = .ok (.iload 5, 2) := by decide +kernel
theorem dX2_close_105 : decode cX2_close 105 = .ok (.i2l, 1) := by decide +kernel
theorem dX2_close_106 : decode cX2_close 106 = .ok (.lmul, 1) := by decide +kernel
theorem dX2_close_107 : decode cX2_close 107 = .ok (.invokevirtual 104, 3) := by decide +kernel
theorem dX2_close_110 : decode cX2_close 110 = .ok (.iload_n 1, 1) := by decide +kernel
theorem dX2_close_111 : decode cX2_close 111 = .ok (.iconst (-1), 1) := by decide +kernel
theorem dX2_close_112 : decode cX2_close 112 = .ok (.if_icmp .eq 13, 3) := by decide +kernel
theorem dX2_close_115 : decode cX2_close 115 = .ok (.aload_n 0, 1) := by decide +kernel
theorem dX2_close_116 : decode cX2_close 116 = .ok (.getfield 43, 3) := by decide +kernel
theorem dX2_close_119 : decode cX2_close 119 = .ok (.aload_n 0, 1) := by decide +kernel
theorem dX2_close_120 : decode cX2_close 120 = .ok (.getfield 32, 3) := by decide +kernel
theorem dX2_close_123 : decode cX2_close 123 = .ok (.iload_n 1, 1) := by decide +kernel
theorem dX2_close_124 : decode cX2_close 124 = .ok (.iastore, 1) := by decide +kernel
theorem dX2_close_125 : decode cX2_close 125 = .ok (.iload_n 2, 1) := by decide +kernel
theorem dX2_close_126 : decode cX2_close 126 = .ok (.iconst (-1), 1) := by decide +kernel
theorem dX2_close_127 : decode cX2_close 127 = .ok (.if_icmp .eq 13, 3) := by decide +kernel
theorem dX2_close_130 : decode cX2_close 130 = .ok (.aload_n 0, 1) := by decide +kernel
theorem dX2_close_131 : decode cX2_close 131 = .ok (.getfield 46, 3) := by decide +kernel
theorem dX2_close_134 : decode cX2_close 134 = .ok (.aload_n 0, 1) := by decide +kernel
theorem dX2_close_135 : decode cX2_close 135 = .ok (.getfield 32, 3) := by decide +kernel
theorem dX2_close_138 : decode cX2_close 138 = .ok (.iload_n 2, 1) := by decide +kernel
theorem dX2_close_139 : decode cX2_close 139 = .ok (.iastore, 1) := by decide +kernel
theorem dX2_close_140 : decode cX2_close 140 = .ok (.return_, 1) := by decide +kernel
theorem dX2_beginLevel_0 : decode cX2_beginLevel 0 = .ok (.aload_n 0, 1) := by decide +kernel
theorem dX2_beginLevel_1 : decode cX2_beginLevel 1 = .ok (.getfield 35, 3) := by decide +kernel
theorem dX2_beginLevel_4 : decode cX2_beginLevel 4 = .ok (.aload_n 0, 1) := by decide +kernel
theorem dX2_beginLevel_5 : decode cX2_beginLevel 5 = .ok (.getfield 32, 3) := by decide +kernel
theorem dX2_beginLevel_8 : decode cX2_beginLevel 8 = .ok (.iconst (-1), 1) := by decide +kernel
theorem dX2_beginLevel_9 : decode cX2_beginLevel 9 = .ok (.iastore, 1) := by decide +kernel
theorem dX2_beginLevel_10 : decode cX2_beginLevel 10 = .ok (.aload_n 0, 1) := by decide +kernel
theorem dX2_beginLevel_11 : decode cX2_beginLevel 11 = .ok (.getfield 39, 3) := by decide +kernel
theorem dX2_beginLevel_14 : decode cX2_beginLevel 14 = .ok (.aload_n 0, 1) := by decide +kernel
theorem dX2_beginLevel_15 : decode cX2_beginLevel 15 = .ok (.getfield 32, 3) := by decide +kernel
theorem dX2_beginLevel_18 : decode cX2_beginLevel 18 = .ok (.lconst 0, 1) := by decide +kernel
theorem dX2_beginLevel_19 : decode cX2_beginLevel 19 = .ok (.lastore, 1) := by decide +kernel
theorem dX2_beginLevel_20 : decode cX2_beginLevel 20 = .ok (.aload_n 0, 1) := by decide +kernel
theorem dX2_beginLevel_21 : decode cX2_beginLevel 21 = .ok (.getfield 43, 3) := by decide +kernel
theorem dX2_beginLevel_24 : decode cX2_beginLevel 24 = .ok (.aload_n 0, 1) := by decide +kernel
theorem dX2_beginLevel_25 : decode cX2_beginLevel 25 = .ok (.getfield 32, 3) := by decide +kernel
theorem dX2_beginLevel_28 : decode cX2_beginLevel 28 = .ok (.iconst (-1), 1) := by decide +kernel
theorem dX2_beginLevel_29 : decode cX2_beginLevel 29 = .ok (.iastore, 1) := by decide +kernel
theorem dX2_beginLevel_30 : decode cX2_beginLevel 30 = .ok (.aload_n 0, 1) := by decide +kernel
theorem dX2_beginLevel_31 : decode cX2_beginLevel 31 = .ok (.getfield 46, 3) := by decide +kernel
theorem dX2_beginLevel_34 : decode cX2_beginLevel 34 = .ok (.aload_n 0, 1) := by decide +kernel
theorem dX2_beginLevel_35 : decode cX2_beginLevel 35 = .ok (.getfield 32, 3) := by decide +kernel
theorem dX2_beginLevel_38 : decode cX2_beginLevel 38 = .ok (.iconst (-1), 1) := by decide +kernel
theorem dX2_beginLevel_39 : decode cX2_beginLevel 39 = .ok (.iastore, 1) := by decide +kernel
theorem dX2_beginLevel_40 : decode cX2_beginLevel 40 = .ok (.return_, 1) := by decide +kernel
theorem dX2_addPicks_0 : decode cX2_addPicks 0 = .ok (.aload_n 0, 1) := by decide +kernel
theorem dX2_addPicks_1 : decode cX2_addPicks 1 = .ok (.getfield 39, 3) := by decide +kernel
theorem dX2_addPicks_4 : decode cX2_addPicks 4 = .ok (.aload_n 0, 1) := by decide +kernel
theorem dX2_addPicks_5 : decode cX2_addPicks 5 = .ok (.getfield 32, 3) := by decide +kernel
theorem dX2_addPicks_8 : decode cX2_addPicks 8 = .ok (.aload_n 0, 1) := by decide +kernel
theorem dX2_addPicks_9 : decode cX2_addPicks 9 = .ok (.getfield 39, 3) := by decide +kernel
theorem dX2_addPicks_12 : decode cX2_addPicks 12 = .ok (.aload_n 0, 1) := by decide +kernel
theorem dX2_addPicks_13 : decode cX2_addPicks 13 = .ok (.getfield 32, 3) := by decide +kernel
theorem dX2_addPicks_16 : decode cX2_addPicks 16 = .ok (.laload, 1) := by decide +kernel
theorem dX2_addPicks_17 : decode cX2_addPicks 17 = .ok (.lload_n 1, 1) := by decide +kernel
theorem dX2_addPicks_18 : decode cX2_addPicks 18 = .ok (.ladd, 1) := by decide +kernel
theorem dX2_addPicks_19 : decode cX2_addPicks 19 = .ok (.ldc2_w 117, 3) := by decide +kernel
theorem dX2_addPicks_22 : decode cX2_addPicks 22 = .ok (.invokestatic 119, 3) := by decide +kernel
theorem dX2_addPicks_25 : decode cX2_addPicks 25 = .ok (.lastore, 1) := by decide +kernel
theorem dX2_addPicks_26 : decode cX2_addPicks 26 = .ok (.return_, 1) := by decide +kernel
set_option maxRecDepth 20000 in
theorem ggX2_readDigits_X5_charOf : GoodIn wsX2_readDigits wsX5_charOf := goodIn_r _ [12, 13, 14, 33, 34] (by decide +kernel) (by decide +kernel)
set_option maxRecDepth 20000 in
theorem gX2_readDigits_X5_charOf : GoodIn wsX2_readDigits (wsV RX2 75 RX5 yX5_charOf wsX5_charOf) := goodIn_app (goodIn_of _ (by decide +kernel)) ggX2_readDigits_X5_charOf
set_option maxRecDepth 20000 in
theorem ggX2_readDigits_X2_digitOf : GoodIn wsX2_readDigits wsX2_digitOf := goodIn_r _ [18] (by decide +kernel) (by decide +kernel)
set_option maxRecDepth 20000 in
theorem gX2_readDigits_X2_digitOf : GoodIn wsX2_readDigits (va_wsS RX2 125 yX2_digitOf wsX2_digitOf) := goodIn_app (goodIn_of _ (by decide +kernel)) ggX2_readDigits_X2_digitOf
set_option maxRecDepth 20000 in
theorem ggX2_readDigits_X2_faultAt : GoodIn wsX2_readDigits wsX2_faultAt := goodIn_r _ [22, 23, 24, 25, 26, 27, 28, 29, 30, 31, 32] (by decide +kernel) (by decide +kernel)
set_option maxRecDepth 20000 in
theorem gX2_readDigits_X2_faultAt : GoodIn wsX2_readDigits (wsV RX2 65 RX2 yX2_faultAt wsX2_faultAt) := goodIn_app (goodIn_of _ (by decide +kernel)) ggX2_readDigits_X2_faultAt
theorem dX2_readDigits_0 : decode cX2_readDigits 0 = .ok (.aload_n 0, 1) := by decide +kernel
theorem dX2_readDigits_1 : decode cX2_readDigits 1 = .ok (.getfield 25, 3) := by decide +kernel
theorem dX2_readDigits_4 : decode cX2_readDigits 4 = .ok (.istore_n 3, 1) := by decide +kernel
theorem dX2_readDigits_5 : decode cX2_readDigits 5 = .ok (.iconst 0, 1) := by decide +kernel
theorem dX2_readDigits_6 : decode cX2_readDigits 6 = .ok (.istore 4, 2) := by decide +kernel
theorem dX2_readDigits_8 : decode cX2_readDigits 8 = .ok (.iconst 0, 1) := by decide +kernel
theorem dX2_readDigits_9 : decode cX2_readDigits 9 = .ok (.istore 5, 2) := by decide +kernel
theorem dX2_readDigits_11 : decode cX2_readDigits 11 = .ok (.iload 5, 2) := by decide +kernel
theorem dX2_readDigits_13 : decode cX2_readDigits 13 = .ok (.iload_n 2, 1) := by decide +kernel
theorem dX2_readDigits_14 : decode cX2_readDigits 14 = .ok (.if_icmp .ge 63, 3) := by decide +kernel
theorem dX2_readDigits_17 : decode cX2_readDigits 17 = .ok (.aload_n 0, 1) := by decide +kernel
theorem dX2_readDigits_18 : decode cX2_readDigits 18 = .ok (.getfield 12, 3) := by decide +kernel
theorem dX2_readDigits_21 : decode cX2_readDigits 21 = .ok (.aload_n 0, 1) := by decide +kernel
theorem dX2_readDigits_22 : decode cX2_readDigits 22 = .ok (.getfield 25, 3) := by decide +kernel
theorem dX2_readDigits_25 : decode cX2_readDigits 25 = .ok (.invokevirtual 75, 3) := by decide +kernel
theorem dX2_readDigits_28 : decode cX2_readDigits 28 = .ok (.invokestatic 125, 3) := by decide +kernel
theorem dX2_readDigits_31 : decode cX2_readDigits 31 = .ok (.istore 6, 2) := by decide +kernel
theorem dX2_readDigits_33 : decode cX2_readDigits 33 = .ok (.iload 6, 2) := by decide +kernel
theorem dX2_readDigits_35 : decode cX2_readDigits 35 = .ok (.ifCond .lt 42, 3) := by decide +kernel
theorem dX2_readDigits_38 : decode cX2_readDigits 38 = .ok (.iload 6, 2) := by decide +kernel
theorem dX2_readDigits_40 : decode cX2_readDigits 40 = .ok (.iload_n 1, 1) := by decide +kernel
theorem dX2_readDigits_41 : decode cX2_readDigits 41 = .ok (.if_icmp .lt 6, 3) := by decide +kernel
theorem dX2_readDigits_44 : decode cX2_readDigits 44 = .ok (.goto 33, 3) := by decide +kernel
theorem dX2_readDigits_47 : decode cX2_readDigits 47 = .ok (.iload 4, 2) := by decide +kernel
theorem dX2_readDigits_49 : decode cX2_readDigits 49 = .ok (.iload_n 1, 1) := by decide +kernel
theorem dX2_readDigits_50 : decode cX2_readDigits 50 = .ok (.imul, 1) := by decide +kernel
theorem dX2_readDigits_51 : decode cX2_readDigits 51 = .ok (.iload 6, 2) := by decide +kernel
theorem dX2_readDigits_53 : decode cX2_readDigits 53 = .ok (.iadd, 1) := by decide +kernel
theorem dX2_readDigits_54 : decode cX2_readDigits 54 = .ok (.ldc 128, 2) := by decide +kernel
theorem dX2_readDigits_56 : decode cX2_readDigits 56 = .ok (.invokestatic 129, 3) := by decide +kernel
theorem dX2_readDigits_59 : decode cX2_readDigits 59 = .ok (.istore 4, 2) := by decide +kernel
theorem dX2_readDigits_61 : decode cX2_readDigits 61 = .ok (.aload_n 0, 1) := by decide +kernel
theorem dX2_readDigits_62 : decode cX2_readDigits 62 = .ok (.dup, 1) := by decide +kernel
theorem dX2_readDigits_63 : decode cX2_readDigits 63 = .ok (.getfield 25, 3) := by decide +kernel
theorem dX2_readDigits_66 : decode cX2_readDigits 66 = .ok (.iconst 1, 1) := by decide +kernel
theorem dX2_readDigits_67 : decode cX2_readDigits 67 = .ok (.iadd, 1) := by decide +kernel
theorem dX2_readDigits_68 : decode cX2_readDigits 68 = .ok (.putfield 25, 3) := by decide +kernel
theorem dX2_readDigits_71 : decode cX2_readDigits 71 = .ok (.iinc 5 1, 3) := by decide +kernel
theorem dX2_readDigits_74 : decode cX2_readDigits 74 = .ok (.goto (-63), 3) := by decide +kernel
theorem dX2_readDigits_77 : decode cX2_readDigits 77 = .ok (.aload_n 0, 1) := by decide +kernel
theorem dX2_readDigits_78 : decode cX2_readDigits 78 = .ok (.getfield 25, 3) := by decide +kernel
theorem dX2_readDigits_81 : decode cX2_readDigits 81 = .ok (.iload_n 3, 1) := by decide +kernel
theorem dX2_readDigits_82 : decode cX2_readDigits 82 = .ok (.if_icmp .ne 11, 3) := by decide +kernel
theorem dX2_readDigits_85 : decode cX2_readDigits 85 = .ok (.aload_n 0, 1) := by decide +kernel
theorem dX2_readDigits_86 : decode cX2_readDigits 86 = .ok (.aload_n 0, 1) := by decide +kernel
theorem dX2_readDigits_87 : decode cX2_readDigits 87 = .ok (.getfield 25, 3) := by decide +kernel
theorem dX2_readDigits_90 : decode cX2_readDigits 90 = .ok (.invokevirtual 65, 3) := by decide +kernel
theorem dX2_readDigits_93 : decode cX2_readDigits 93 = .ok (.iload 4, 2) := by decide +kernel
theorem dX2_readDigits_95 : decode cX2_readDigits 95 = .ok (.ireturn, 1) := by decide +kernel
theorem dX2_digitOf_0 : decode cX2_digitOf 0 = .ok (.iload_n 0, 1) := by decide +kernel
theorem dX2_digitOf_1 : decode cX2_digitOf 1 = .ok (.bipush 48, 2) := by decide +kernel
theorem dX2_digitOf_3 : decode cX2_digitOf 3 = .ok (.if_icmp .lt 14, 3) := by decide +kernel
theorem dX2_digitOf_6 : decode cX2_digitOf 6 = .ok (.iload_n 0, 1) := by decide +kernel
theorem dX2_digitOf_7 : decode cX2_digitOf 7 = .ok (.bipush 57, 2) := by decide +kernel
theorem dX2_digitOf_9 : decode cX2_digitOf 9 = .ok (.if_icmp .gt 8, 3) := by decide +kernel
theorem dX2_digitOf_12 : decode cX2_digitOf 12 = .ok (.iload_n 0, 1) := by decide +kernel
theorem dX2_digitOf_13 : decode cX2_digitOf 13 = .ok (.bipush 48, 2) := by decide +kernel
theorem dX2_digitOf_15 : decode cX2_digitOf 15 = .ok (.isub, 1) := by decide +kernel
theorem dX2_digitOf_16 : decode cX2_digitOf 16 = .ok (.ireturn, 1) := by decide +kernel
theorem dX2_digitOf_17 : decode cX2_digitOf 17 = .ok (.iload_n 0, 1) := by decide +kernel
theorem dX2_digitOf_18 : decode cX2_digitOf 18 = .ok (.bipush 97, 2) := by decide +kernel
theorem dX2_digitOf_20 : decode cX2_digitOf 20 = .ok (.if_icmp .lt 19, 3) := by decide +kernel
theorem dX2_digitOf_23 : decode cX2_digitOf 23 = .ok (.iload_n 0, 1) := by decide +kernel
theorem dX2_digitOf_24 : decode cX2_digitOf 24 = .ok (.bipush 102, 2) := by decide +kernel
theorem dX2_digitOf_26 : decode cX2_digitOf 26 = .ok (.if_icmp .gt 13, 3) := by decide +kernel
theorem dX2_digitOf_29 : decode cX2_digitOf 29 = .ok (.iload_n 0, 1) := by decide +kernel
theorem dX2_digitOf_30 : decode cX2_digitOf 30 = .ok (.bipush 97, 2) := by decide +kernel
theorem dX2_digitOf_32 : decode cX2_digitOf 32 = .ok (.isub, 1) := by decide +kernel
theorem dX2_digitOf_33 : decode cX2_digitOf 33 = .ok (.bipush 10, 2) := by decide +kernel
theorem dX2_digitOf_35 : decode cX2_digitOf 35 = .ok (.iadd, 1) := by decide +kernel
theorem dX2_digitOf_36 : decode cX2_digitOf 36 = .ok (.goto 4, 3) := by decide +kernel
theorem dX2_digitOf_39 : decode cX2_digitOf 39 = .ok (.iconst (-1), 1) := by decide +kernel
theorem dX2_digitOf_40 : decode cX2_digitOf 40 = .ok (.ireturn, 1) := by decide +kernel
theorem dX2_isAllowed_0 : decode cX2_isAllowed 0 = .ok (.iconst 0, 1) := by decide +kernel
theorem dX2_isAllowed_1 : decode cX2_isAllowed 1 = .ok (.istore_n 1, 1) := by decide +kernel
theorem dX2_isAllowed_2 : decode cX2_isAllowed 2 = .ok (.iload_n 1, 1) := by decide +kernel
theorem dX2_isAllowed_3 : decode cX2_isAllowed 3 = .ok (.getstatic 131, 3) := by decide +kernel
theorem dX2_isAllowed_6 : decode cX2_isAllowed 6 = .ok (.arraylength, 1) := by decide +kernel
theorem dX2_isAllowed_7 : decode cX2_isAllowed 7 = .ok (.if_icmp .ge 20, 3) := by decide +kernel
theorem dX2_isAllowed_10 : decode cX2_isAllowed 10 = .ok (.getstatic 131, 3) := by decide +kernel
theorem dX2_isAllowed_13 : decode cX2_isAllowed 13 = .ok (.iload_n 1, 1) := by decide +kernel
theorem dX2_isAllowed_14 : decode cX2_isAllowed 14 = .ok (.iaload, 1) := by decide +kernel
theorem dX2_isAllowed_15 : decode cX2_isAllowed 15 = .ok (.iload_n 0, 1) := by decide +kernel
theorem dX2_isAllowed_16 : decode cX2_isAllowed 16 = .ok (.if_icmp .ne 5, 3) := by decide +kernel
theorem dX2_isAllowed_19 : decode cX2_isAllowed 19 = .ok (.iconst 1, 1) := by decide +kernel
theorem dX2_isAllowed_20 : decode cX2_isAllowed 20 = .ok (.ireturn, 1) := by decide +kernel
theorem dX2_isAllowed_21 : decode cX2_isAllowed 21 = .ok (.iinc 1 1, 3) := by decide +kernel
theorem dX2_isAllowed_24 : decode cX2_isAllowed 24 = .ok (.goto (-22), 3) := by decide +kernel
theorem dX2_isAllowed_27 : decode cX2_isAllowed 27 = .ok (.iconst 0, 1) := by decide +kernel
theorem dX2_isAllowed_28 : decode cX2_isAllowed 28 = .ok (.ireturn, 1) := by decide +kernel
theorem dX2_faultAt_0 : decode cX2_faultAt 0 = .ok (.aload_n 0, 1) := by decide +kernel
theorem dX2_faultAt_1 : decode cX2_faultAt 1 = .ok (.getfield 29, 3) := by decide +kernel
theorem dX2_faultAt_4 : decode cX2_faultAt 4 = .ok (.iconst (-1), 1) := by decide +kernel
theorem dX2_faultAt_5 : decode cX2_faultAt 5 = .ok (.if_icmp .ne 8, 3) := by decide +kernel
theorem dX2_faultAt_8 : decode cX2_faultAt 8 = .ok (.aload_n 0, 1) := by decide +kernel
theorem dX2_faultAt_9 : decode cX2_faultAt 9 = .ok (.iload_n 1, 1) := by decide +kernel
theorem dX2_faultAt_10 : decode cX2_faultAt 10 = .ok (.putfield 29, 3) := by decide +kernel
theorem dX2_faultAt_13 : decode cX2_faultAt 13 = .ok (.return_, 1) := by decide +kernel
theorem dX3_init_0 : decode cX3_init 0 = .ok (.aload_n 0, 1) := by decide +kernel
theorem dX3_init_1 : decode cX3_init 1 = .ok (.invokespecial 3, 3) := by decide +kernel
theorem dX3_init_4 : decode cX3_init 4 = .ok (.aload_n 0, 1) := by decide +kernel
theorem dX3_init_5 : decode cX3_init 5 = .ok (.iconst 2, 1) := by decide +kernel
theorem dX3_init_6 : decode cX3_init 6 = .ok (.newarray .int, 2) := by decide +kernel
theorem dX3_init_8 : decode cX3_init 8 = .ok (.dup, 1) := by decide +kernel
theorem dX3_init_9 : decode cX3_init 9 = .ok (.iconst 0, 1) := by decide +kernel
theorem dX3_init_10 : decode cX3_init 10 = .ok (.iconst (-1), 1) := by decide +kernel
theorem dX3_init_11 : decode cX3_init 11 = .ok (.iastore, 1) := by decide +kernel
theorem dX3_init_12 : decode cX3_init 12 = .ok (.dup, 1) := by decide +kernel
theorem dX3_init_13 : decode cX3_init 13 = .ok (.iconst 1, 1) := by decide +kernel
theorem dX3_init_14 : decode cX3_init 14 = .ok (.iconst (-1), 1) := by decide +kernel
theorem dX3_init_15 : decode cX3_init 15 = .ok (.iastore, 1) := by decide +kernel
theorem dX3_init_16 : decode cX3_init 16 = .ok (.putfield 9, 3) := by decide +kernel
theorem dX3_init_19 : decode cX3_init 19 = .ok (.aload_n 0, 1) := by decide +kernel
theorem dX3_init_20 : decode cX3_init 20 = .ok (.iconst 2, 1) := by decide +kernel
theorem dX3_init_21 : decode cX3_init 21 = .ok (.newarray .long, 2) := by decide +kernel
theorem dX3_init_23 : decode cX3_init 23 = .ok (.dup, 1) := by decide +kernel
theorem dX3_init_24 : decode cX3_init 24 = .ok (.iconst 0, 1) := by decide +kernel
theorem dX3_init_25 : decode cX3_init 25 = .ok (.lconst 0, 1) := by decide +kernel
theorem dX3_init_26 : decode cX3_init 26 = .ok (.lastore, 1) := by decide +kernel
theorem dX3_init_27 : decode cX3_init 27 = .ok (.dup, 1) := by decide +kernel
theorem dX3_init_28 : decode cX3_init 28 = .ok (.iconst 1, 1) := by decide +kernel
theorem dX3_init_29 : decode cX3_init 29 = .ok (.lconst 0, 1) := by decide +kernel
theorem dX3_init_30 : decode cX3_init 30 = .ok (.lastore, 1) := by decide +kernel
theorem dX3_init_31 : decode cX3_init 31 = .ok (.putfield 15, 3) := by decide +kernel
theorem dX3_init_34 : decode cX3_init 34 = .ok (.aload_n 0, 1) := by decide +kernel
theorem dX3_init_35 : decode cX3_init 35 = .ok (.iconst 0, 1) := by decide +kernel
theorem dX3_init_36 : decode cX3_init 36 = .ok (.putfield 19, 3) := by decide +kernel
theorem dX3_init_39 : decode cX3_init 39 = .ok (.return_, 1) := by decide +kernel
set_option maxRecDepth 20000 in
theorem ggX3_write_X3_other : GoodIn wsX3_write wsX3_other := goodIn_r _ [8, 1, 9, 10, 11] (by decide +kernel) (by decide +kernel)
set_option maxRecDepth 20000 in
theorem gX3_write_X3_other : GoodIn wsX3_write (wsV RX3 23 RX3 yX3_other wsX3_other) := goodIn_app (goodIn_of _ (by decide +kernel)) ggX3_write_X3_other
theorem dX3_write_0 : decode cX3_write 0 = .ok (.aload_n 0, 1) := by decide +kernel
theorem dX3_write_1 : decode cX3_write 1 = .ok (.aload_n 0, 1) := by decide +kernel
theorem dX3_write_2 : decode cX3_write 2 = .ok (.invokevirtual 23, 3) := by decide +kernel
theorem dX3_write_5 : decode cX3_write 5 = .ok (.putfield 19, 3) := by decide +kernel
theorem dX3_write_8 : decode cX3_write 8 = .ok (.aload_n 0, 1) := by decide +kernel
theorem dX3_write_9 : decode cX3_write 9 = .ok (.getfield 9, 3) := by decide +kernel
theorem dX3_write_12 : decode cX3_write 12 = .ok (.aload_n 0, 1) := by decide +kernel
theorem dX3_write_13 : decode cX3_write 13 = .ok (.getfield 19, 3) := by decide +kernel
theorem dX3_write_16 : decode cX3_write 16 = .ok (.iload_n 1, 1) := by decide +kernel
theorem dX3_write_17 : decode cX3_write 17 = .ok (.iastore, 1) := by decide +kernel
theorem dX3_write_18 : decode cX3_write 18 = .ok (.aload_n 0, 1) := by decide +kernel
theorem dX3_write_19 : decode cX3_write 19 = .ok (.getfield 15, 3) := by decide +kernel
theorem dX3_write_22 : decode cX3_write 22 = .ok (.aload_n 0, 1) := by decide +kernel
theorem dX3_write_23 : decode cX3_write 23 = .ok (.getfield 19, 3) := by decide +kernel
theorem dX3_write_26 : decode cX3_write 26 = .ok (.lload_n 2, 1) := by decide +kernel
theorem dX3_write_27 : decode cX3_write 27 = .ok (.lastore, 1) := by decide +kernel
theorem dX3_write_28 : decode cX3_write 28 = .ok (.return_, 1) := by decide +kernel
theorem dX3_spoilLast_0 : decode cX3_spoilLast 0 = .ok (.aload_n 0, 1) := by decide +kernel
theorem dX3_spoilLast_1 : decode cX3_spoilLast 1 = .ok (.getfield 9, 3) := by decide +kernel
theorem dX3_spoilLast_4 : decode cX3_spoilLast 4 = .ok (.aload_n 0, 1) := by decide +kernel
theorem dX3_spoilLast_5 : decode cX3_spoilLast 5 = .ok (.getfield 19, 3) := by decide +kernel
theorem dX3_spoilLast_8 : decode cX3_spoilLast 8 = .ok (.iconst (-1), 1) := by decide +kernel
theorem dX3_spoilLast_9 : decode cX3_spoilLast 9 = .ok (.iastore, 1) := by decide +kernel
theorem dX3_spoilLast_10 : decode cX3_spoilLast 10 = .ok (.return_, 1) := by decide +kernel
theorem dX3_clear_0 : decode cX3_clear 0 = .ok (.aload_n 0, 1) := by decide +kernel
theorem dX3_clear_1 : decode cX3_clear 1 = .ok (.getfield 9, 3) := by decide +kernel
theorem dX3_clear_4 : decode cX3_clear 4 = .ok (.iconst 0, 1) := by decide +kernel
theorem dX3_clear_5 : decode cX3_clear 5 = .ok (.iconst (-1), 1) := by decide +kernel
theorem dX3_clear_6 : decode cX3_clear 6 = .ok (.iastore, 1) := by decide +kernel
theorem dX3_clear_7 : decode cX3_clear 7 = .ok (.aload_n 0, 1) := by decide +kernel
theorem dX3_clear_8 : decode cX3_clear 8 = .ok (.getfield 9, 3) := by decide +kernel
theorem dX3_clear_11 : decode cX3_clear 11 = .ok (.iconst 1, 1) := by decide +kernel
theorem dX3_clear_12 : decode cX3_clear 12 = .ok (.iconst (-1), 1) := by decide +kernel
theorem dX3_clear_13 : decode cX3_clear 13 = .ok (.iastore, 1) := by decide +kernel
theorem dX3_clear_14 : decode cX3_clear 14 = .ok (.return_, 1) := by decide +kernel
set_option maxRecDepth 20000 in
theorem ggX3_newest_X3_other : GoodIn wsX3_newest wsX3_other := goodIn_r _ [7, 2, 8, 9, 10] (by decide +kernel) (by decide +kernel)
set_option maxRecDepth 20000 in
theorem gX3_newest_X3_other : GoodIn wsX3_newest (wsV RX3 23 RX3 yX3_other wsX3_other) := goodIn_app (goodIn_of _ (by decide +kernel)) ggX3_newest_X3_other
theorem dX3_newest_0 : decode cX3_newest 0 = .ok (.aload_n 0, 1) := by decide +kernel
theorem dX3_newest_1 : decode cX3_newest 1 = .ok (.getfield 9, 3) := by decide +kernel
theorem dX3_newest_4 : decode cX3_newest 4 = .ok (.aload_n 0, 1) := by decide +kernel
theorem dX3_newest_5 : decode cX3_newest 5 = .ok (.getfield 19, 3) := by decide +kernel
theorem dX3_newest_8 : decode cX3_newest 8 = .ok (.iaload, 1) := by decide +kernel
theorem dX3_newest_9 : decode cX3_newest 9 = .ok (.iconst (-1), 1) := by decide +kernel
theorem dX3_newest_10 : decode cX3_newest 10 = .ok (.if_icmp .eq 8, 3) := by decide +kernel
theorem dX3_newest_13 : decode cX3_newest 13 = .ok (.aload_n 0, 1) := by decide +kernel
theorem dX3_newest_14 : decode cX3_newest 14 = .ok (.getfield 19, 3) := by decide +kernel
theorem dX3_newest_17 : decode cX3_newest 17 = .ok (.ireturn, 1) := by decide +kernel
theorem dX3_newest_18 : decode cX3_newest 18 = .ok (.aload_n 0, 1) := by decide +kernel
theorem dX3_newest_19 : decode cX3_newest 19 = .ok (.getfield 9, 3) := by decide +kernel
theorem dX3_newest_22 : decode cX3_newest 22 = .ok (.aload_n 0, 1) := by decide +kernel
theorem dX3_newest_23 : decode cX3_newest 23 = .ok (.invokevirtual 23, 3) := by decide +kernel
theorem dX3_newest_26 : decode cX3_newest 26 = .ok (.iaload, 1) := by decide +kernel
theorem dX3_newest_27 : decode cX3_newest 27 = .ok (.iconst (-1), 1) := by decide +kernel
theorem dX3_newest_28 : decode cX3_newest 28 = .ok (.if_icmp .eq 10, 3) := by decide +kernel
theorem dX3_newest_31 : decode cX3_newest 31 = .ok (.aload_n 0, 1) := by decide +kernel
theorem dX3_newest_32 : decode cX3_newest 32 = .ok (.invokevirtual 23, 3) := by decide +kernel
theorem dX3_newest_35 : decode cX3_newest 35 = .ok (.goto 4, 3) := by decide +kernel
theorem dX3_newest_38 : decode cX3_newest 38 = .ok (.iconst (-1), 1) := by decide +kernel
theorem dX3_newest_39 : decode cX3_newest 39 = .ok (.ireturn, 1) := by decide +kernel
theorem dX3_markOf_0 : decode cX3_markOf 0 = .ok (.iload_n 1, 1) := by decide +kernel
theorem dX3_markOf_1 : decode cX3_markOf 1 = .ok (.ifCond .eq 8, 3) := by decide +kernel
theorem dX3_markOf_4 : decode cX3_markOf 4 = .ok (.iload_n 1, 1) := by decide +kernel
theorem dX3_markOf_5 : decode cX3_markOf 5 = .ok (.iconst 1, 1) := by decide +kernel
theorem dX3_markOf_6 : decode cX3_markOf 6 = .ok (.if_icmp .ne 12, 3) := by decide +kernel
theorem dX3_markOf_9 : decode cX3_markOf 9 = .ok (.aload_n 0, 1) := by decide +kernel
theorem dX3_markOf_10 : decode cX3_markOf 10 = .ok (.getfield 9, 3) := by decide +kernel
theorem dX3_markOf_13 : decode cX3_markOf 13 = .ok (.iload_n 1, 1) := by decide +kernel
theorem dX3_markOf_14 : decode cX3_markOf 14 = .ok (.iaload, 1) := by decide +kernel
theorem dX3_markOf_15 : decode cX3_markOf 15 = .ok (.goto 4, 3) := by decide +kernel
theorem dX3_markOf_18 : decode cX3_markOf 18 = .ok (.iconst (-1), 1) := by decide +kernel
theorem dX3_markOf_19 : decode cX3_markOf 19 = .ok (.ireturn, 1) := by decide +kernel
theorem dX3_placeOf_0 : decode cX3_placeOf 0 = .ok (.iload_n 1, 1) := by decide +kernel
theorem dX3_placeOf_1 : decode cX3_placeOf 1 = .ok (.ifCond .eq 8, 3) := by decide +kernel
theorem dX3_placeOf_4 : decode cX3_placeOf 4 = .ok (.iload_n 1, 1) := by decide +kernel
theorem dX3_placeOf_5 : decode cX3_placeOf 5 = .ok (.iconst 1, 1) := by decide +kernel
theorem dX3_placeOf_6 : decode cX3_placeOf 6 = .ok (.if_icmp .ne 12, 3) := by decide +kernel
theorem dX3_placeOf_9 : decode cX3_placeOf 9 = .ok (.aload_n 0, 1) := by decide +kernel
theorem dX3_placeOf_10 : decode cX3_placeOf 10 = .ok (.getfield 15, 3) := by decide +kernel
theorem dX3_placeOf_13 : decode cX3_placeOf 13 = .ok (.iload_n 1, 1) := by decide +kernel
theorem dX3_placeOf_14 : decode cX3_placeOf 14 = .ok (.laload, 1) := by decide +kernel
theorem dX3_placeOf_15 : decode cX3_placeOf 15 = .ok (.goto 4, 3) := by decide +kernel
theorem dX3_placeOf_18 : decode cX3_placeOf 18 = .ok (.lconst 0, 1) := by decide +kernel
theorem dX3_placeOf_19 : decode cX3_placeOf 19 = .ok (.lreturn, 1) := by decide +kernel
theorem dX3_other_0 : decode cX3_other 0 = .ok (.aload_n 0, 1) := by decide +kernel
theorem dX3_other_1 : decode cX3_other 1 = .ok (.getfield 19, 3) := by decide +kernel
theorem dX3_other_4 : decode cX3_other 4 = .ok (.ifCond .ne 7, 3) := by decide +kernel
theorem dX3_other_7 : decode cX3_other 7 = .ok (.iconst 1, 1) := by decide +kernel
theorem dX3_other_8 : decode cX3_other 8 = .ok (.goto 4, 3) := by decide +kernel
theorem dX3_other_11 : decode cX3_other 11 = .ok (.iconst 0, 1) := by decide +kernel
theorem dX3_other_12 : decode cX3_other 12 = .ok (.ireturn, 1) := by decide +kernel
theorem dX4_init_0 : decode cX4_init 0 = .ok (.aload_n 0, 1) := by decide +kernel
theorem dX4_init_1 : decode cX4_init 1 = .ok (.invokespecial 3, 3) := by decide +kernel
theorem dX4_init_4 : decode cX4_init 4 = .ok (.aload_n 0, 1) := by decide +kernel
theorem dX4_init_5 : decode cX4_init 5 = .ok (.iconst 0, 1) := by decide +kernel
theorem dX4_init_6 : decode cX4_init 6 = .ok (.putfield 9, 3) := by decide +kernel
theorem dX4_init_9 : decode cX4_init 9 = .ok (.aload_n 0, 1) := by decide +kernel
theorem dX4_init_10 : decode cX4_init 10 = .ok (.iconst 0, 1) := by decide +kernel
theorem dX4_init_11 : decode cX4_init 11 = .ok (.putfield 15, 3) := by decide +kernel
theorem dX4_init_14 : decode cX4_init 14 = .ok (.aload_n 0, 1) := by decide +kernel
theorem dX4_init_15 : decode cX4_init 15 = .ok (.iconst 0, 1) := by decide +kernel
theorem dX4_init_16 : decode cX4_init 16 = .ok (.putfield 18, 3) := by decide +kernel
theorem dX4_init_19 : decode cX4_init 19 = .ok (.aload_n 0, 1) := by decide +kernel
theorem dX4_init_20 : decode cX4_init 20 = .ok (.sipush 960, 3) := by decide +kernel
theorem dX4_init_23 : decode cX4_init 23 = .ok (.putfield 21, 3) := by decide +kernel
theorem dX4_init_26 : decode cX4_init 26 = .ok (.aload_n 0, 1) := by decide +kernel
theorem dX4_init_27 : decode cX4_init 27 = .ok (.iconst 0, 1) := by decide +kernel
theorem dX4_init_28 : decode cX4_init 28 = .ok (.putfield 24, 3) := by decide +kernel
theorem dX4_init_31 : decode cX4_init 31 = .ok (.aload_n 0, 1) := by decide +kernel
theorem dX4_init_32 : decode cX4_init 32 = .ok (.lconst 0, 1) := by decide +kernel
theorem dX4_init_33 : decode cX4_init 33 = .ok (.putfield 27, 3) := by decide +kernel
theorem dX4_init_36 : decode cX4_init 36 = .ok (.return_, 1) := by decide +kernel
theorem dX4_stands_0 : decode cX4_stands 0 = .ok (.aload_n 0, 1) := by decide +kernel
theorem dX4_stands_1 : decode cX4_stands 1 = .ok (.getfield 15, 3) := by decide +kernel
theorem dX4_stands_4 : decode cX4_stands 4 = .ok (.ifCond .ne 7, 3) := by decide +kernel
theorem dX4_stands_7 : decode cX4_stands 7 = .ok (.iconst 1, 1) := by decide +kernel
theorem dX4_stands_8 : decode cX4_stands 8 = .ok (.goto 4, 3) := by decide +kernel
theorem dX4_stands_11 : decode cX4_stands 11 = .ok (.iconst 0, 1) := by decide +kernel
theorem dX4_stands_12 : decode cX4_stands 12 = .ok (.ireturn, 1) := by decide +kernel
theorem dX4_stand_0 : decode cX4_stand 0 = .ok (.aload_n 0, 1) := by decide +kernel
theorem dX4_stand_1 : decode cX4_stand 1 = .ok (.iconst 0, 1) := by decide +kernel
theorem dX4_stand_2 : decode cX4_stand 2 = .ok (.putfield 15, 3) := by decide +kernel
theorem dX4_stand_5 : decode cX4_stand 5 = .ok (.aload_n 0, 1) := by decide +kernel
theorem dX4_stand_6 : decode cX4_stand 6 = .ok (.iconst 0, 1) := by decide +kernel
theorem dX4_stand_7 : decode cX4_stand 7 = .ok (.putfield 18, 3) := by decide +kernel
theorem dX4_stand_10 : decode cX4_stand 10 = .ok (.return_, 1) := by decide +kernel
theorem dX4_orderBrake_0 : decode cX4_orderBrake 0 = .ok (.aload_n 0, 1) := by decide +kernel
theorem dX4_orderBrake_1 : decode cX4_orderBrake 1 = .ok (.getfield 15, 3) := by decide +kernel
theorem dX4_orderBrake_4 : decode cX4_orderBrake 4 = .ok (.iconst 1, 1) := by decide +kernel
theorem dX4_orderBrake_5 : decode cX4_orderBrake 5 = .ok (.if_icmp .eq 5, 3) := by decide +kernel
theorem dX4_orderBrake_8 : decode cX4_orderBrake 8 = .ok (.iconst 0, 1) := by decide +kernel
theorem dX4_orderBrake_9 : decode cX4_orderBrake 9 = .ok (.ireturn, 1) := by decide +kernel
theorem dX4_orderBrake_10 : decode cX4_orderBrake 10 = .ok (.aload_n 0, 1) := by decide +kernel
theorem dX4_orderBrake_11 : decode cX4_orderBrake 11 = .ok (.iconst 2, 1) := by decide +kernel
theorem dX4_orderBrake_12 : decode cX4_orderBrake 12 = .ok (.putfield 15, 3) := by decide +kernel
theorem dX4_orderBrake_15 : decode cX4_orderBrake 15 = .ok (.aload_n 0, 1) := by decide +kernel
theorem dX4_orderBrake_16 : decode cX4_orderBrake 16 = .ok (.aload_n 0, 1) := by decide +kernel
theorem dX4_orderBrake_17 : decode cX4_orderBrake 17 = .ok (.getfield 21, 3) := by decide +kernel
theorem dX4_orderBrake_20 : decode cX4_orderBrake 20 = .ok (.putfield 18, 3) := by decide +kernel
theorem dX4_orderBrake_23 : decode cX4_orderBrake 23 = .ok (.aload_n 0, 1) := by decide +kernel
theorem dX4_orderBrake_24 : decode cX4_orderBrake 24 = .ok (.dup, 1) := by decide +kernel
theorem dX4_orderBrake_25 : decode cX4_orderBrake 25 = .ok (.getfield 24, 3) := by decide +kernel
theorem dX4_orderBrake_28 : decode cX4_orderBrake 28 = .ok (.iconst 1, 1) := by decide +kernel
theorem dX4_orderBrake_29 : decode cX4_orderBrake 29 = .ok (.iadd, 1) := by decide +kernel
theorem dX4_orderBrake_30 : decode cX4_orderBrake 30 = .ok (.putfield 24, 3) := by decide +kernel
theorem dX4_orderBrake_33 : decode cX4_orderBrake 33 = .ok (.iconst 1, 1) := by decide +kernel
theorem dX4_orderBrake_34 : decode cX4_orderBrake 34 = .ok (.ireturn, 1) := by decide +kernel
theorem dX4_markAbove_0 : decode cX4_markAbove 0 = .ok (.aload_n 0, 1) := by decide +kernel
theorem dX4_markAbove_1 : decode cX4_markAbove 1 = .ok (.getfield 9, 3) := by decide +kernel
theorem dX4_markAbove_4 : decode cX4_markAbove 4 = .ok (.sipush 480, 3) := by decide +kernel
theorem dX4_markAbove_7 : decode cX4_markAbove 7 = .ok (.if_icmp .ge 7, 3) := by decide +kernel
theorem dX4_markAbove_10 : decode cX4_markAbove 10 = .ok (.sipush 480, 3) := by decide +kernel
theorem dX4_markAbove_13 : decode cX4_markAbove 13 = .ok (.ireturn, 1) := by decide +kernel
theorem dX4_markAbove_14 : decode cX4_markAbove 14 = .ok (.aload_n 0, 1) := by decide +kernel
theorem dX4_markAbove_15 : decode cX4_markAbove 15 = .ok (.getfield 9, 3) := by decide +kernel
theorem dX4_markAbove_18 : decode cX4_markAbove 18 = .ok (.sipush 1440, 3) := by decide +kernel
theorem dX4_markAbove_21 : decode cX4_markAbove 21 = .ok (.if_icmp .ge 7, 3) := by decide +kernel
theorem dX4_markAbove_24 : decode cX4_markAbove 24 = .ok (.sipush 1440, 3) := by decide +kernel
theorem dX4_markAbove_27 : decode cX4_markAbove 27 = .ok (.ireturn, 1) := by decide +kernel
theorem dX4_markAbove_28 : decode cX4_markAbove 28 = .ok (.aload_n 0, 1) := by decide +kernel
theorem dX4_markAbove_29 : decode cX4_markAbove 29 = .ok (.getfield 9, 3) := by decide +kernel
theorem dX4_markAbove_32 : decode cX4_markAbove 32 = .ok (.sipush 4800, 3) := by decide +kernel
theorem dX4_markAbove_35 : decode cX4_markAbove 35 = .ok (.if_icmp .ge 9, 3) := by decide +kernel
theorem dX4_markAbove_38 : decode cX4_markAbove 38 = .ok (.sipush 4800, 3) := by decide +kernel
theorem dX4_markAbove_41 : decode cX4_markAbove 41 = .ok (.goto 6, 3) := by decide +kernel
theorem dX4_markAbove_44 : decode cX4_markAbove 44 = .ok (.sipush 5760, 3) := by decide +kernel
theorem dX4_markAbove_47 : decode cX4_markAbove 47 = .ok (.ireturn, 1) := by decide +kernel
theorem dX4_markBelow_0 : decode cX4_markBelow 0 = .ok (.iload_n 1, 1) := by decide +kernel
theorem dX4_markBelow_1 : decode cX4_markBelow 1 = .ok (.sipush 4800, 3) := by decide +kernel
theorem dX4_markBelow_4 : decode cX4_markBelow 4 = .ok (.if_icmp .le 7, 3) := by decide +kernel
theorem dX4_markBelow_7 : decode cX4_markBelow 7 = .ok (.sipush 4800, 3) := by decide +kernel
theorem dX4_markBelow_10 : decode cX4_markBelow 10 = .ok (.ireturn, 1) := by decide +kernel
theorem dX4_markBelow_11 : decode cX4_markBelow 11 = .ok (.iload_n 1, 1) := by decide +kernel
theorem dX4_markBelow_12 : decode cX4_markBelow 12 = .ok (.sipush 1440, 3) := by decide +kernel
theorem dX4_markBelow_15 : decode cX4_markBelow 15 = .ok (.if_icmp .le 7, 3) := by decide +kernel
theorem dX4_markBelow_18 : decode cX4_markBelow 18 = .ok (.sipush 1440, 3) := by decide +kernel
theorem dX4_markBelow_21 : decode cX4_markBelow 21 = .ok (.ireturn, 1) := by decide +kernel
theorem dX4_markBelow_22 : decode cX4_markBelow 22 = .ok (.iload_n 1, 1) := by decide +kernel
theorem dX4_markBelow_23 : decode cX4_markBelow 23 = .ok (.sipush 480, 3) := by decide +kernel
theorem dX4_markBelow_26 : decode cX4_markBelow 26 = .ok (.if_icmp .le 9, 3) := by decide +kernel
theorem dX4_markBelow_29 : decode cX4_markBelow 29 = .ok (.sipush 480, 3) := by decide +kernel
theorem dX4_markBelow_32 : decode cX4_markBelow 32 = .ok (.goto 4, 3) := by decide +kernel
theorem dX4_markBelow_35 : decode cX4_markBelow 35 = .ok (.iconst 0, 1) := by decide +kernel
theorem dX4_markBelow_36 : decode cX4_markBelow 36 = .ok (.ireturn, 1) := by decide +kernel
theorem dX4_goTowards_0 : decode cX4_goTowards 0 = .ok (.iload_n 1, 1) := by decide +kernel
theorem dX4_goTowards_1 : decode cX4_goTowards 1 = .ok (.aload_n 0, 1) := by decide +kernel
theorem dX4_goTowards_2 : decode cX4_goTowards 2 = .ok (.getfield 9, 3) := by decide +kernel
theorem dX4_goTowards_5 : decode cX4_goTowards 5 = .ok (.isub, 1) := by decide +kernel
theorem dX4_goTowards_6 : decode cX4_goTowards 6 = .ok (.iload_n 2, 1) := by decide +kernel
theorem dX4_goTowards_7 : decode cX4_goTowards 7 = .ok (.invokestatic 31, 3) := by decide +kernel
theorem dX4_goTowards_10 : decode cX4_goTowards 10 = .ok (.istore_n 3, 1) := by decide +kernel
theorem dX4_goTowards_11 : decode cX4_goTowards 11 = .ok (.aload_n 0, 1) := by decide +kernel
theorem dX4_goTowards_12 : decode cX4_goTowards 12 = .ok (.getfield 15, 3) := by decide +kernel
theorem dX4_goTowards_15 : decode cX4_goTowards 15 = .ok (.iconst 2, 1) := by decide +kernel
theorem dX4_goTowards_16 : decode cX4_goTowards 16 = .ok (.if_icmp .ne 22, 3) := by decide +kernel
theorem dX4_goTowards_19 : decode cX4_goTowards 19 = .ok (.iload_n 3, 1) := by decide +kernel
theorem dX4_goTowards_20 : decode cX4_goTowards 20 = .ok (.aload_n 0, 1) := by decide +kernel
theorem dX4_goTowards_21 : decode cX4_goTowards 21 = .ok (.getfield 18, 3) := by decide +kernel
theorem dX4_goTowards_24 : decode cX4_goTowards 24 = .ok (.invokestatic 31, 3) := by decide +kernel
theorem dX4_goTowards_27 : decode cX4_goTowards 27 = .ok (.istore_n 3, 1) := by decide +kernel
theorem dX4_goTowards_28 : decode cX4_goTowards 28 = .ok (.aload_n 0, 1) := by decide +kernel
theorem dX4_goTowards_29 : decode cX4_goTowards 29 = .ok (.dup, 1) := by decide +kernel
theorem dX4_goTowards_30 : decode cX4_goTowards 30 = .ok (.getfield 18, 3) := by decide +kernel
theorem dX4_goTowards_33 : decode cX4_goTowards 33 = .ok (.iload_n 3, 1) := by decide +kernel
theorem dX4_goTowards_34 : decode cX4_goTowards 34 = .ok (.isub, 1) := by decide +kernel
theorem dX4_goTowards_35 : decode cX4_goTowards 35 = .ok (.putfield 18, 3) := by decide +kernel
theorem dX4_goTowards_38 : decode cX4_goTowards 38 = .ok (.aload_n 0, 1) := by decide +kernel
theorem dX4_goTowards_39 : decode cX4_goTowards 39 = .ok (.dup, 1) := by decide +kernel
theorem dX4_goTowards_40 : decode cX4_goTowards 40 = .ok (.getfield 9, 3) := by decide +kernel
theorem dX4_goTowards_43 : decode cX4_goTowards 43 = .ok (.iload_n 3, 1) := by decide +kernel
theorem dX4_goTowards_44 : decode cX4_goTowards 44 = .ok (.iadd, 1) := by decide +kernel
theorem dX4_goTowards_45 : decode cX4_goTowards 45 = .ok (.putfield 9, 3) := by decide +kernel
theorem dX4_goTowards_48 : decode cX4_goTowards 48 = .ok (.iload_n 3, 1) := by decide +kernel
theorem dX4_goTowards_49 : decode cX4_goTowards 49 = .ok (.ireturn, 1) := by decide +kernel
set_option maxRecDepth 20000 in
theorem ggX4_standWhenSpent_X4_stand : GoodIn wsX4_standWhenSpent wsX4_stand := goodIn_r _ [7, 1, 2, 8, 9, 10, 11, 12, 13] (by decide +kernel) (by decide +kernel)
set_option maxRecDepth 20000 in
theorem gX4_standWhenSpent_X4_stand : GoodIn wsX4_standWhenSpent (wsV RX4 37 RX4 yX4_stand wsX4_stand) := goodIn_app (goodIn_of _ (by decide +kernel)) ggX4_standWhenSpent_X4_stand
theorem dX4_standWhenSpent_0 : decode cX4_standWhenSpent 0 = .ok (.aload_n 0, 1) := by decide +kernel
theorem dX4_standWhenSpent_1 : decode cX4_standWhenSpent 1 = .ok (.getfield 15, 3) := by decide +kernel
theorem dX4_standWhenSpent_4 : decode cX4_standWhenSpent 4 = .ok (.iconst 2, 1) := by decide +kernel
theorem dX4_standWhenSpent_5 : decode cX4_standWhenSpent 5 = .ok (.if_icmp .ne 14, 3) := by decide +kernel
theorem dX4_standWhenSpent_8 : decode cX4_standWhenSpent 8 = .ok (.aload_n 0, 1) := by decide +kernel
theorem dX4_standWhenSpent_9 : decode cX4_standWhenSpent 9 = .ok (.getfield 18, 3) := by decide +kernel
theorem dX4_standWhenSpent_12 : decode cX4_standWhenSpent 12 = .ok (.ifCond .ne 7, 3) := by decide +kernel
theorem dX4_standWhenSpent_15 : decode cX4_standWhenSpent 15 = .ok (.aload_n 0, 1) := by decide +kernel
theorem dX4_standWhenSpent_16 : decode cX4_standWhenSpent 16 = .ok (.invokevirtual 37, 3) := by decide +kernel
theorem dX4_standWhenSpent_19 : decode cX4_standWhenSpent 19 = .ok (.return_, 1) := by decide +kernel
theorem dX5_init_0 : decode cX5_init 0 = .ok (.aload_n 0, 1) := by decide +kernel
theorem dX5_init_1 : decode cX5_init 1 = .ok (.invokespecial 3, 3) := by decide +kernel
theorem dX5_init_4 : decode cX5_init 4 = .ok (.aload_n 0, 1) := by decide +kernel
theorem dX5_init_5 : decode cX5_init 5 = .ok (.sipush 160, 3) := by decide +kernel
theorem dX5_init_8 : decode cX5_init 8 = .ok (.newarray .int, 2) := by decide +kernel
theorem dX5_init_10 : decode cX5_init 10 = .ok (.putfield 11, 3) := by decide +kernel
theorem dX5_init_13 : decode cX5_init 13 = .ok (.aload_n 0, 1) := by decide +kernel
theorem dX5_init_14 : decode cX5_init 14 = .ok (.iconst 0, 1) := by decide +kernel
theorem dX5_init_15 : decode cX5_init 15 = .ok (.putfield 15, 3) := by decide +kernel
theorem dX5_init_18 : decode cX5_init 18 = .ok (.return_, 1) := by decide +kernel
set_option maxRecDepth 20000 in
theorem ggX5_put_X5_byteOf : GoodIn wsX5_put wsX5_byteOf := goodIn_r _ [5] (by decide +kernel) (by decide +kernel)
set_option maxRecDepth 20000 in
theorem gX5_put_X5_byteOf : GoodIn wsX5_put (va_wsS RX5 19 yX5_byteOf wsX5_byteOf) := goodIn_app (goodIn_of _ (by decide +kernel)) ggX5_put_X5_byteOf
set_option maxRecDepth 20000 in
theorem ggX5_put_X5_add : GoodIn wsX5_put wsX5_add := goodIn_r _ [9, 1, 10, 11, 12] (by decide +kernel) (by decide +kernel)
set_option maxRecDepth 20000 in
theorem gX5_put_X5_add : GoodIn wsX5_put (wsV RX5 23 RX5 yX5_add wsX5_add) := goodIn_app (goodIn_of _ (by decide +kernel)) ggX5_put_X5_add
theorem dX5_put_0 : decode cX5_put 0 = .ok (.iload_n 3, 1) := by decide +kernel
theorem dX5_put_1 : decode cX5_put 1 = .ok (.iconst 1, 1) := by decide +kernel
theorem dX5_put_2 : decode cX5_put 2 = .ok (.if_icmp .lt 21, 3) := by decide +kernel
theorem dX5_put_5 : decode cX5_put 5 = .ok (.iload_n 3, 1) := by decide +kernel
theorem dX5_put_6 : decode cX5_put 6 = .ok (.bipush 8, 2) := by decide +kernel
theorem dX5_put_8 : decode cX5_put 8 = .ok (.if_icmp .gt 15, 3) := by decide +kernel
theorem dX5_put_11 : decode cX5_put 11 = .ok (.aload_n 0, 1) := by decide +kernel
theorem dX5_put_12 : decode cX5_put 12 = .ok (.getfield 15, 3) := by decide +kernel
theorem dX5_put_15 : decode cX5_put 15 = .ok (.iload_n 3, 1) := by decide +kernel
theorem dX5_put_16 : decode cX5_put 16 = .ok (.iadd, 1) := by decide +kernel
theorem dX5_put_17 : decode cX5_put 17 = .ok (.sipush 160, 3) := by decide +kernel
theorem dX5_put_20 : decode cX5_put 20 = .ok (.if_icmp .le 5, 3) := by decide +kernel
theorem dX5_put_23 : decode cX5_put 23 = .ok (.iconst 0, 1) := by decide +kernel
theorem dX5_put_24 : decode cX5_put 24 = .ok (.ireturn, 1) := by decide +kernel
theorem dX5_put_25 : decode cX5_put 25 = .ok (.iconst 0, 1) := by decide +kernel
theorem dX5_put_26 : decode cX5_put 26 = .ok (.istore 4, 2) := by decide +kernel
theorem dX5_put_28 : decode cX5_put 28 = .ok (.iload 4, 2) := by decide +kernel
theorem dX5_put_30 : decode cX5_put 30 = .ok (.iload_n 3, 1) := by decide +kernel
theorem dX5_put_31 : decode cX5_put 31 = .ok (.if_icmp .ge 33, 3) := by decide +kernel
theorem dX5_put_34 : decode cX5_put 34 = .ok (.lload_n 1, 1) := by decide +kernel
theorem dX5_put_35 : decode cX5_put 35 = .ok (.iload 4, 2) := by decide +kernel
theorem dX5_put_37 : decode cX5_put 37 = .ok (.invokestatic 19, 3) := by decide +kernel
theorem dX5_put_40 : decode cX5_put 40 = .ok (.istore 5, 2) := by decide +kernel
theorem dX5_put_42 : decode cX5_put 42 = .ok (.iload 5, 2) := by decide +kernel
theorem dX5_put_44 : decode cX5_put 44 = .ok (.bipush 32, 2) := by decide +kernel
theorem dX5_put_46 : decode cX5_put 46 = .ok (.if_icmp .lt 10, 3) := by decide +kernel
theorem dX5_put_49 : decode cX5_put 49 = .ok (.iload 5, 2) := by decide +kernel
theorem dX5_put_51 : decode cX5_put 51 = .ok (.bipush 126, 2) := by decide +kernel
theorem dX5_put_53 : decode cX5_put 53 = .ok (.if_icmp .le 5, 3) := by decide +kernel
theorem dX5_put_56 : decode cX5_put 56 = .ok (.iconst 0, 1) := by decide +kernel
theorem dX5_put_57 : decode cX5_put 57 = .ok (.ireturn, 1) := by decide +kernel
theorem dX5_put_58 : decode cX5_put 58 = .ok (.iinc 4 1, 3) := by decide +kernel
theorem dX5_put_61 : decode cX5_put 61 = .ok (.goto (-33), 3) := by decide +kernel
theorem dX5_put_64 : decode cX5_put 64 = .ok (.iload_n 3, 1) := by decide +kernel
theorem dX5_put_65 : decode cX5_put 65 = .ok (.iconst 1, 1) := by decide +kernel
theorem dX5_put_66 : decode cX5_put 66 = .ok (.isub, 1) := by decide +kernel
theorem dX5_put_67 : decode cX5_put 67 = .ok (.istore 4, 2) := by decide +kernel
theorem dX5_put_69 : decode cX5_put 69 = .ok (.iload 4, 2) := by decide +kernel
theorem dX5_put_71 : decode cX5_put 71 = .ok (.ifCond .lt 19, 3) := by decide +kernel
theorem dX5_put_74 : decode cX5_put 74 = .ok (.aload_n 0, 1) := by decide +kernel
theorem dX5_put_75 : decode cX5_put 75 = .ok (.lload_n 1, 1) := by decide +kernel
theorem dX5_put_76 : decode cX5_put 76 = .ok (.iload 4, 2) := by decide +kernel
theorem dX5_put_78 : decode cX5_put 78 = .ok (.invokestatic 19, 3) := by decide +kernel
theorem dX5_put_81 : decode cX5_put 81 = .ok (.invokevirtual 23, 3) := by decide +kernel
theorem dX5_put_84 : decode cX5_put 84 = .ok (.iinc 4 (-1), 3) := by decide +kernel
theorem dX5_put_87 : decode cX5_put 87 = .ok (.goto (-18), 3) := by decide +kernel
theorem dX5_put_90 : decode cX5_put 90 = .ok (.iconst 1, 1) := by decide +kernel
theorem dX5_put_91 : decode cX5_put 91 = .ok (.ireturn, 1) := by decide +kernel
theorem dX5_charOf_0 : decode cX5_charOf 0 = .ok (.iload_n 1, 1) := by decide +kernel
theorem dX5_charOf_1 : decode cX5_charOf 1 = .ok (.ifCond .lt 20, 3) := by decide +kernel
theorem dX5_charOf_4 : decode cX5_charOf 4 = .ok (.iload_n 1, 1) := by decide +kernel
theorem dX5_charOf_5 : decode cX5_charOf 5 = .ok (.aload_n 0, 1) := by decide +kernel
theorem dX5_charOf_6 : decode cX5_charOf 6 = .ok (.getfield 15, 3) := by decide +kernel
theorem dX5_charOf_9 : decode cX5_charOf 9 = .ok (.if_icmp .ge 12, 3) := by decide +kernel
theorem dX5_charOf_12 : decode cX5_charOf 12 = .ok (.aload_n 0, 1) := by decide +kernel
theorem dX5_charOf_13 : decode cX5_charOf 13 = .ok (.getfield 11, 3) := by decide +kernel
theorem dX5_charOf_16 : decode cX5_charOf 16 = .ok (.iload_n 1, 1) := by decide +kernel
theorem dX5_charOf_17 : decode cX5_charOf 17 = .ok (.iaload, 1) := by decide +kernel
theorem dX5_charOf_18 : decode cX5_charOf 18 = .ok (.goto 4, 3) := by decide +kernel
theorem dX5_charOf_21 : decode cX5_charOf 21 = .ok (.iconst (-1), 1) := by decide +kernel
theorem dX5_charOf_22 : decode cX5_charOf 22 = .ok (.ireturn, 1) := by decide +kernel
set_option maxRecDepth 20000 in
theorem ggX5_behindBlanks_X5_charOf : GoodIn wsX5_behindBlanks wsX5_charOf := goodIn_r _ [5, 6, 7, 8, 9] (by decide +kernel) (by decide +kernel)
set_option maxRecDepth 20000 in
theorem gX5_behindBlanks_X5_charOf : GoodIn wsX5_behindBlanks (wsV RX5 27 RX5 yX5_charOf wsX5_charOf) := goodIn_app (goodIn_of _ (by decide +kernel)) ggX5_behindBlanks_X5_charOf
theorem dX5_behindBlanks_0 : decode cX5_behindBlanks 0 = .ok (.iload_n 1, 1) := by decide +kernel
theorem dX5_behindBlanks_1 : decode cX5_behindBlanks 1 = .ok (.istore_n 2, 1) := by decide +kernel
theorem dX5_behindBlanks_2 : decode cX5_behindBlanks 2 = .ok (.iconst 0, 1) := by decide +kernel
theorem dX5_behindBlanks_3 : decode cX5_behindBlanks 3 = .ok (.istore_n 3, 1) := by decide +kernel
theorem dX5_behindBlanks_4 : decode cX5_behindBlanks 4 = .ok (.iload_n 3, 1) := by decide +kernel
theorem dX5_behindBlanks_5 : decode cX5_behindBlanks 5 = .ok (.sipush 160, 3) := by decide +kernel
theorem dX5_behindBlanks_8 : decode cX5_behindBlanks 8 = .ok (.if_icmp .ge 22, 3) := by decide +kernel
theorem dX5_behindBlanks_11 : decode cX5_behindBlanks 11 = .ok (.aload_n 0, 1) := by decide +kernel
theorem dX5_behindBlanks_12 : decode cX5_behindBlanks 12 = .ok (.iload_n 2, 1) := by decide +kernel
theorem dX5_behindBlanks_13 : decode cX5_behindBlanks 13 = .ok (.invokevirtual 27, 3) := by decide +kernel
theorem dX5_behindBlanks_16 : decode cX5_behindBlanks 16 = .ok (.bipush 32, 2) := by decide +kernel
theorem dX5_behindBlanks_18 : decode cX5_behindBlanks 18 = .ok (.if_icmp .ne 12, 3) := by decide +kernel
theorem dX5_behindBlanks_21 : decode cX5_behindBlanks 21 = .ok (.iinc 2 1, 3) := by decide +kernel
theorem dX5_behindBlanks_24 : decode cX5_behindBlanks 24 = .ok (.iinc 3 1, 3) := by decide +kernel
theorem dX5_behindBlanks_27 : decode cX5_behindBlanks 27 = .ok (.goto (-23), 3) := by decide +kernel
theorem dX5_behindBlanks_30 : decode cX5_behindBlanks 30 = .ok (.iload_n 2, 1) := by decide +kernel
theorem dX5_behindBlanks_31 : decode cX5_behindBlanks 31 = .ok (.ireturn, 1) := by decide +kernel
theorem dX5_clear_0 : decode cX5_clear 0 = .ok (.aload_n 0, 1) := by decide +kernel
theorem dX5_clear_1 : decode cX5_clear 1 = .ok (.iconst 0, 1) := by decide +kernel
theorem dX5_clear_2 : decode cX5_clear 2 = .ok (.putfield 15, 3) := by decide +kernel
theorem dX5_clear_5 : decode cX5_clear 5 = .ok (.return_, 1) := by decide +kernel
theorem dX5_add_0 : decode cX5_add 0 = .ok (.aload_n 0, 1) := by decide +kernel
theorem dX5_add_1 : decode cX5_add 1 = .ok (.getfield 15, 3) := by decide +kernel
theorem dX5_add_4 : decode cX5_add 4 = .ok (.ifCond .lt 33, 3) := by decide +kernel
theorem dX5_add_7 : decode cX5_add 7 = .ok (.aload_n 0, 1) := by decide +kernel
theorem dX5_add_8 : decode cX5_add 8 = .ok (.getfield 15, 3) := by decide +kernel
theorem dX5_add_11 : decode cX5_add 11 = .ok (.sipush 160, 3) := by decide +kernel
theorem dX5_add_14 : decode cX5_add 14 = .ok (.if_icmp .ge 23, 3) := by decide +kernel
theorem dX5_add_17 : decode cX5_add 17 = .ok (.aload_n 0, 1) := by decide +kernel
theorem dX5_add_18 : decode cX5_add 18 = .ok (.getfield 11, 3) := by decide +kernel
theorem dX5_add_21 : decode cX5_add 21 = .ok (.aload_n 0, 1) := by decide +kernel
theorem dX5_add_22 : decode cX5_add 22 = .ok (.getfield 15, 3) := by decide +kernel
theorem dX5_add_25 : decode cX5_add 25 = .ok (.iload_n 1, 1) := by decide +kernel
theorem dX5_add_26 : decode cX5_add 26 = .ok (.iastore, 1) := by decide +kernel
theorem dX5_add_27 : decode cX5_add 27 = .ok (.aload_n 0, 1) := by decide +kernel
theorem dX5_add_28 : decode cX5_add 28 = .ok (.dup, 1) := by decide +kernel
theorem dX5_add_29 : decode cX5_add 29 = .ok (.getfield 15, 3) := by decide +kernel
theorem dX5_add_32 : decode cX5_add 32 = .ok (.iconst 1, 1) := by decide +kernel
theorem dX5_add_33 : decode cX5_add 33 = .ok (.iadd, 1) := by decide +kernel
theorem dX5_add_34 : decode cX5_add 34 = .ok (.putfield 15, 3) := by decide +kernel
theorem dX5_add_37 : decode cX5_add 37 = .ok (.return_, 1) := by decide +kernel
theorem dX5_byteOf_0 : decode cX5_byteOf 0 = .ok (.lload_n 0, 1) := by decide +kernel
theorem dX5_byteOf_1 : decode cX5_byteOf 1 = .ok (.bipush 8, 2) := by decide +kernel
theorem dX5_byteOf_3 : decode cX5_byteOf 3 = .ok (.iload_n 2, 1) := by decide +kernel
theorem dX5_byteOf_4 : decode cX5_byteOf 4 = .ok (.imul, 1) := by decide +kernel
theorem dX5_byteOf_5 : decode cX5_byteOf 5 = .ok (.lushr, 1) := by decide +kernel
theorem dX5_byteOf_6 : decode cX5_byteOf 6 = .ok (.l2i, 1) := by decide +kernel
theorem dX5_byteOf_7 : decode cX5_byteOf 7 = .ok (.sipush 255, 3) := by decide +kernel
theorem dX5_byteOf_10 : decode cX5_byteOf 10 = .ok (.iand, 1) := by decide +kernel
theorem dX5_byteOf_11 : decode cX5_byteOf 11 = .ok (.ireturn, 1) := by decide +kernel
set_option maxRecDepth 20000 in
theorem ggX6_init_X2_init : GoodIn wsX6_init wsX2_init := goodIn_r _ [33, 34, 2, 3, 35, 36, 37, 38, 39, 21, 22, 40, 41, 42, 43, 44, 45, 46, 47, 48, 49, 50, 51, 52, 53, 54, 55, 56, 57, 58, 59, 60, 61, 62, 63, 64, 65, 66, 67, 68, 69, 70, 148, 149, 100, 101, 102, 103, 104, 105, 106, 107, 108, 137, 138, 139, 140, 141, 142, 143, 144, 145, 146, 147] (by decide +kernel) (by decide +kernel)
set_option maxRecDepth 20000 in
theorem gX6_init_X2_init : GoodIn wsX6_init (wsX2_init) := ggX6_init_X2_init
set_option maxRecDepth 20000 in
theorem ggX6_init_X4_init : GoodIn wsX6_init wsX4_init := goodIn_r _ [73, 74, 2, 3, 75, 76, 77, 78, 79, 80, 121, 122, 123, 124, 125, 126] (by decide +kernel) (by decide +kernel)
set_option maxRecDepth 20000 in
theorem gX6_init_X4_init : GoodIn wsX6_init (wsX4_init) := ggX6_init_X4_init
set_option maxRecDepth 20000 in
theorem ggX6_init_X0_init : GoodIn wsX6_init wsX0_init := goodIn_r _ [83, 84, 2, 3, 44, 85, 86, 87, 88, 89, 90, 91, 127, 128, 129, 130, 131, 132, 133] (by decide +kernel) (by decide +kernel)
set_option maxRecDepth 20000 in
theorem gX6_init_X0_init : GoodIn wsX6_init (wsX0_init) := ggX6_init_X0_init
set_option maxRecDepth 20000 in
theorem ggX6_init_X3_init : GoodIn wsX6_init wsX3_init := goodIn_r _ [94, 95, 2, 3, 44, 96, 46, 97, 98, 134, 135, 136] (by decide +kernel) (by decide +kernel)
set_option maxRecDepth 20000 in
theorem gX6_init_X3_init : GoodIn wsX6_init (wsX3_init) := ggX6_init_X3_init
set_option maxRecDepth 20000 in
theorem ggX6_init_X1_init : GoodIn wsX6_init wsX1_init := goodIn_r _ [58, 59, 2, 3, 44, 60, 61, 62, 46, 63, 64, 65, 66, 67, 68, 69, 70, 137, 138, 139, 140, 141, 142, 143, 144, 145, 146, 147] (by decide +kernel) (by decide +kernel)
set_option maxRecDepth 20000 in
theorem gX6_init_X1_init : GoodIn wsX6_init (wsX1_init) := ggX6_init_X1_init
end
section
theorem dX6_init_0 : decode cX6_init 0 = .ok (.aload_n 0, 1) := by decide +kernel
theorem dX6_init_1 : decode cX6_init 1 = .ok (.invokespecial 3, 3) := by decide +kernel
theorem dX6_init_4 : decode cX6_init 4 = .ok (.aload_n 0, 1) := by decide +kernel
theorem dX6_init_5 : decode cX6_init 5 = .ok (.new 9, 3) := by decide +kernel
theorem dX6_init_8 : decode cX6_init 8 = .ok (.dup, 1) := by decide +kernel
theorem dX6_init_9 : decode cX6_init 9 = .ok (.invokespecial 11, 3) := by decide +kernel
theorem dX6_init_12 : decode cX6_init 12 = .ok (.putfield 12, 3) := by decide +kernel
theorem dX6_init_15 : decode cX6_init 15 = .ok (.aload_n 0, 1) := by decide +kernel
theorem dX6_init_16 : decode cX6_init 16 = .ok (.new 16, 3) := by decide +kernel
theorem dX6_init_19 : decode cX6_init 19 = .ok (.dup, 1) := by decide +kernel
theorem dX6_init_20 : decode cX6_init 20 = .ok (.invokespecial 18, 3) := by decide +kernel
theorem dX6_init_23 : decode cX6_init 23 = .ok (.putfield 19, 3) := by decide +kernel
theorem dX6_init_26 : decode cX6_init 26 = .ok (.aload_n 0, 1) := by decide +kernel
theorem dX6_init_27 : decode cX6_init 27 = .ok (.new 23, 3) := by decide +kernel
theorem dX6_init_30 : decode cX6_init 30 = .ok (.dup, 1) := by decide +kernel
theorem dX6_init_31 : decode cX6_init 31 = .ok (.invokespecial 25, 3) := by decide +kernel
theorem dX6_init_34 : decode cX6_init 34 = .ok (.putfield 26, 3) := by decide +kernel
theorem dX6_init_37 : decode cX6_init 37 = .ok (.aload_n 0, 1) := by decide +kernel
theorem dX6_init_38 : decode cX6_init 38 = .ok (.new 30, 3) := by decide +kernel
theorem dX6_init_41 : decode cX6_init 41 = .ok (.dup, 1) := by decide +kernel
theorem dX6_init_42 : decode cX6_init 42 = .ok (.invokespecial 32, 3) := by decide +kernel
theorem dX6_init_45 : decode cX6_init 45 = .ok (.putfield 33, 3) := by decide +kernel
theorem dX6_init_48 : decode cX6_init 48 = .ok (.aload_n 0, 1) := by decide +kernel
theorem dX6_init_49 : decode cX6_init 49 = .ok (.new 37, 3) := by decide +kernel
theorem dX6_init_52 : decode cX6_init 52 = .ok (.dup, 1) := by decide +kernel
theorem dX6_init_53 : decode cX6_init 53 = .ok (.invokespecial 39, 3) := by decide +kernel
theorem dX6_init_56 : decode cX6_init 56 = .ok (.putfield 40, 3) := by decide +kernel
theorem dX6_init_59 : decode cX6_init 59 = .ok (.aload_n 0, 1) := by decide +kernel
theorem dX6_init_60 : decode cX6_init 60 = .ok (.lconst 0, 1) := by decide +kernel
theorem dX6_init_61 : decode cX6_init 61 = .ok (.putfield 44, 3) := by decide +kernel
theorem dX6_init_64 : decode cX6_init 64 = .ok (.aload_n 0, 1) := by decide +kernel
theorem dX6_init_65 : decode cX6_init 65 = .ok (.iconst 0, 1) := by decide +kernel
theorem dX6_init_66 : decode cX6_init 66 = .ok (.putfield 48, 3) := by decide +kernel
theorem dX6_init_69 : decode cX6_init 69 = .ok (.aload_n 0, 1) := by decide +kernel
theorem dX6_init_70 : decode cX6_init 70 = .ok (.iconst 0, 1) := by decide +kernel
theorem dX6_init_71 : decode cX6_init 71 = .ok (.putfield 52, 3) := by decide +kernel
theorem dX6_init_74 : decode cX6_init 74 = .ok (.aload_n 0, 1) := by decide +kernel
theorem dX6_init_75 : decode cX6_init 75 = .ok (.iconst 0, 1) := by decide +kernel
theorem dX6_init_76 : decode cX6_init 76 = .ok (.putfield 55, 3) := by decide +kernel
theorem dX6_init_79 : decode cX6_init 79 = .ok (.aload_n 0, 1) := by decide +kernel
theorem dX6_init_80 : decode cX6_init 80 = .ok (.iconst 0, 1) := by decide +kernel
theorem dX6_init_81 : decode cX6_init 81 = .ok (.putfield 58, 3) := by decide +kernel
theorem dX6_init_84 : decode cX6_init 84 = .ok (.aload_n 0, 1) := by decide +kernel
theorem dX6_init_85 : decode cX6_init 85 = .ok (.iconst 0, 1) := by decide +kernel
theorem dX6_init_86 : decode cX6_init 86 = .ok (.putfield 61, 3) := by decide +kernel
theorem dX6_init_89 : decode cX6_init 89 = .ok (.aload_n 0, 1) := by decide +kernel
theorem dX6_init_90 : decode cX6_init 90 = .ok (.iconst 1, 1) := by decide +kernel
theorem dX6_init_91 : decode cX6_init 91 = .ok (.putfield 65, 3) := by decide +kernel
theorem dX6_init_94 : decode cX6_init 94 = .ok (.return_, 1) := by decide +kernel
set_option maxRecDepth 20000 in
theorem ggX6_type_X5_put : GoodIn wsX6_type wsX5_put := goodIn_r _ [6, 7, 8, 9, 5, 10, 11, 12, 13, 14, 15, 37, 38] (by decide +kernel) (by decide +kernel)
set_option maxRecDepth 20000 in
theorem gX6_type_X5_put : GoodIn wsX6_type (wsV RX6 72 RX5 yX5_put wsX5_put) := goodIn_app (goodIn_of _ (by decide +kernel)) ggX6_type_X5_put
theorem dX6_type_0 : decode cX6_type 0 = .ok (.aload_n 0, 1) := by decide +kernel
theorem dX6_type_1 : decode cX6_type 1 = .ok (.getfield 12, 3) := by decide +kernel
theorem dX6_type_4 : decode cX6_type 4 = .ok (.getfield 68, 3) := by decide +kernel
theorem dX6_type_7 : decode cX6_type 7 = .ok (.lload_n 1, 1) := by decide +kernel
theorem dX6_type_8 : decode cX6_type 8 = .ok (.iload_n 3, 1) := by decide +kernel
theorem dX6_type_9 : decode cX6_type 9 = .ok (.invokevirtual 72, 3) := by decide +kernel
theorem dX6_type_12 : decode cX6_type 12 = .ok (.ireturn, 1) := by decide +kernel
set_option maxRecDepth 20000 in
theorem ggX6_compile_X4_stands : GoodIn wsX6_compile wsX4_stands := goodIn_r _ [11, 12, 147, 148, 149, 150, 151, 152] (by decide +kernel) (by decide +kernel)
set_option maxRecDepth 20000 in
theorem gX6_compile_X4_stands : GoodIn wsX6_compile (wsV RX6 78 RX4 yX4_stands wsX4_stands) := goodIn_app (goodIn_of _ (by decide +kernel)) ggX6_compile_X4_stands
set_option maxRecDepth 20000 in
theorem ggX6_compile_X2_read : GoodIn wsX6_compile wsX2_read := goodIn_r _ [17, 18, 19, 20, 21, 22, 23, 24, 25, 26, 27, 28, 29, 30, 31, 32, 33, 34, 35, 36, 37, 38, 39, 40, 41, 42, 43, 44, 45, 16, 46, 47, 48, 49, 50, 51, 52, 53, 54, 55, 56, 57, 58, 59, 60, 61, 62, 63, 64, 65, 66, 67, 68, 69, 70, 71, 72, 73, 74, 75, 76, 77, 78, 79, 80, 81, 82, 83, 84, 85, 86, 87, 88, 89, 90, 91, 92, 93, 94, 95, 96, 97, 98, 99, 100, 101, 102, 103, 104, 105, 106, 107, 108, 109, 110, 111, 112, 113, 114, 115, 116, 117, 118, 119, 120, 121, 122, 123, 124, 153, 154, 155, 156, 157, 158, 159, 160, 161, 162, 163, 164, 165, 166, 167, 168, 169, 170, 171, 172, 173, 174] (by decide +kernel) (by decide +kernel)
set_option maxRecDepth 20000 in
theorem gX6_compile_X2_read : GoodIn wsX6_compile (wsV RX6 82 RX2 yX2_read wsX2_read) := goodIn_app (goodIn_of _ (by decide +kernel)) ggX6_compile_X2_read
set_option maxRecDepth 20000 in
theorem ggX6_compile_X2_exchange : GoodIn wsX6_compile wsX2_exchange := goodIn_r _ [128, 18, 153, 154, 155, 156, 157, 158, 159, 160, 161] (by decide +kernel) (by decide +kernel)
set_option maxRecDepth 20000 in
theorem gX6_compile_X2_exchange : GoodIn wsX6_compile (wsV RX6 86 RX2 yX2_exchange wsX2_exchange) := goodIn_app (goodIn_of _ (by decide +kernel)) ggX6_compile_X2_exchange
set_option maxRecDepth 20000 in
theorem ggX6_compile_X3_clear : GoodIn wsX6_compile wsX3_clear := goodIn_r _ [133, 134, 175, 176, 177] (by decide +kernel) (by decide +kernel)
set_option maxRecDepth 20000 in
theorem gX6_compile_X3_clear : GoodIn wsX6_compile (wsV RX6 90 RX3 yX3_clear wsX3_clear) := goodIn_app (goodIn_of _ (by decide +kernel)) ggX6_compile_X3_clear
theorem dX6_compile_0 : decode cX6_compile 0 = .ok (.aload_n 0, 1) := by decide +kernel
theorem dX6_compile_1 : decode cX6_compile 1 = .ok (.getfield 65, 3) := by decide +kernel
theorem dX6_compile_4 : decode cX6_compile 4 = .ok (.ifCond .eq 13, 3) := by decide +kernel
theorem dX6_compile_7 : decode cX6_compile 7 = .ok (.aload_n 0, 1) := by decide +kernel
theorem dX6_compile_8 : decode cX6_compile 8 = .ok (.getfield 19, 3) := by decide +kernel
theorem dX6_compile_11 : decode cX6_compile 11 = .ok (.invokevirtual 78, 3) := by decide +kernel
theorem dX6_compile_14 : decode cX6_compile 14 = .ok (.ifCond .ne 5, 3) := by decide +kernel
theorem dX6_compile_17 : decode cX6_compile 17 = .ok (.iconst (-1), 1) := by decide +kernel
theorem dX6_compile_18 : decode cX6_compile 18 = .ok (.ireturn, 1) := by decide +kernel
theorem dX6_compile_19 : decode cX6_compile 19 = .ok (.aload_n 0, 1) := by decide +kernel
theorem dX6_compile_20 : decode cX6_compile 20 = .ok (.getfield 12, 3) := by decide +kernel
theorem dX6_compile_23 : decode cX6_compile 23 = .ok (.invokevirtual 82, 3) := by decide +kernel
theorem dX6_compile_26 : decode cX6_compile 26 = .ok (.istore_n 1, 1) := by decide +kernel
theorem dX6_compile_27 : decode cX6_compile 27 = .ok (.iload_n 1, 1) := by decide +kernel
theorem dX6_compile_28 : decode cX6_compile 28 = .ok (.iconst (-1), 1) := by decide +kernel
theorem dX6_compile_29 : decode cX6_compile 29 = .ok (.if_icmp .eq 7, 3) := by decide +kernel
theorem dX6_compile_32 : decode cX6_compile 32 = .ok (.iload_n 1, 1) := by decide +kernel
theorem dX6_compile_33 : decode cX6_compile 33 = .ok (.iconst 1, 1) := by decide +kernel
theorem dX6_compile_34 : decode cX6_compile 34 = .ok (.iadd, 1) := by decide +kernel
theorem dX6_compile_35 : decode cX6_compile 35 = .ok (.ireturn, 1) := by decide +kernel
theorem dX6_compile_36 : decode cX6_compile 36 = .ok (.aload_n 0, 1) := by decide +kernel
theorem dX6_compile_37 : decode cX6_compile 37 = .ok (.aload_n 0, 1) := by decide +kernel
theorem dX6_compile_38 : decode cX6_compile 38 = .ok (.getfield 12, 3) := by decide +kernel
theorem dX6_compile_41 : decode cX6_compile 41 = .ok (.aload_n 0, 1) := by decide +kernel
theorem dX6_compile_42 : decode cX6_compile 42 = .ok (.getfield 40, 3) := by decide +kernel
theorem dX6_compile_45 : decode cX6_compile 45 = .ok (.invokevirtual 86, 3) := by decide +kernel
theorem dX6_compile_48 : decode cX6_compile 48 = .ok (.putfield 40, 3) := by decide +kernel
theorem dX6_compile_51 : decode cX6_compile 51 = .ok (.aload_n 0, 1) := by decide +kernel
theorem dX6_compile_52 : decode cX6_compile 52 = .ok (.lconst 0, 1) := by decide +kernel
theorem dX6_compile_53 : decode cX6_compile 53 = .ok (.putfield 44, 3) := by decide +kernel
theorem dX6_compile_56 : decode cX6_compile 56 = .ok (.aload_n 0, 1) := by decide +kernel
theorem dX6_compile_57 : decode cX6_compile 57 = .ok (.getfield 33, 3) := by decide +kernel
theorem dX6_compile_60 : decode cX6_compile 60 = .ok (.invokevirtual 90, 3) := by decide +kernel
theorem dX6_compile_63 : decode cX6_compile 63 = .ok (.iconst 0, 1) := by decide +kernel
theorem dX6_compile_64 : decode cX6_compile 64 = .ok (.ireturn, 1) := by decide +kernel
theorem dX6_length_0 : decode cX6_length 0 = .ok (.aload_n 0, 1) := by decide +kernel
theorem dX6_length_1 : decode cX6_length 1 = .ok (.getfield 40, 3) := by decide +kernel
theorem dX6_length_4 : decode cX6_length 4 = .ok (.getfield 93, 3) := by decide +kernel
theorem dX6_length_7 : decode cX6_length 7 = .ok (.lreturn, 1) := by decide +kernel
set_option maxRecDepth 20000 in
theorem ggX6_design_X1_tell : GoodIn wsX6_design wsX1_tell := goodIn_r _ [6, 7, 8, 9, 10, 11, 12, 13, 14, 15, 5, 16, 17, 18, 19, 20, 21, 22, 23, 24, 25, 26, 27, 28, 29, 30, 31, 32, 33, 46, 47, 48, 49, 50, 51, 52, 53, 54, 55, 56] (by decide +kernel) (by decide +kernel)
set_option maxRecDepth 20000 in
theorem gX6_design_X1_tell : GoodIn wsX6_design (wsV RX6 96 RX1 yX1_tell wsX1_tell) := goodIn_app (goodIn_of _ (by decide +kernel)) ggX6_design_X1_tell
theorem dX6_design_0 : decode cX6_design 0 = .ok (.aload_n 0, 1) := by decide +kernel
theorem dX6_design_1 : decode cX6_design 1 = .ok (.getfield 40, 3) := by decide +kernel
theorem dX6_design_4 : decode cX6_design 4 = .ok (.lload_n 1, 1) := by decide +kernel
theorem dX6_design_5 : decode cX6_design 5 = .ok (.iload_n 3, 1) := by decide +kernel
theorem dX6_design_6 : decode cX6_design 6 = .ok (.invokevirtual 96, 3) := by decide +kernel
theorem dX6_design_9 : decode cX6_design 9 = .ok (.ireturn, 1) := by decide +kernel
set_option maxRecDepth 20000 in
theorem ggX6_start_X4_stands : GoodIn wsX6_start wsX4_stands := goodIn_r _ [8, 9, 33, 34, 35, 36, 37, 38] (by decide +kernel) (by decide +kernel)
set_option maxRecDepth 20000 in
theorem gX6_start_X4_stands : GoodIn wsX6_start (wsV RX6 78 RX4 yX4_stands wsX4_stands) := goodIn_app (goodIn_of _ (by decide +kernel)) ggX6_start_X4_stands
theorem dX6_start_0 : decode cX6_start 0 = .ok (.aload_n 0, 1) := by decide +kernel
theorem dX6_start_1 : decode cX6_start 1 = .ok (.getfield 65, 3) := by decide +kernel
theorem dX6_start_4 : decode cX6_start 4 = .ok (.ifCond .eq 25, 3) := by decide +kernel
theorem dX6_start_7 : decode cX6_start 7 = .ok (.aload_n 0, 1) := by decide +kernel
theorem dX6_start_8 : decode cX6_start 8 = .ok (.getfield 19, 3) := by decide +kernel
theorem dX6_start_11 : decode cX6_start 11 = .ok (.invokevirtual 78, 3) := by decide +kernel
theorem dX6_start_14 : decode cX6_start 14 = .ok (.ifCond .eq 15, 3) := by decide +kernel
theorem dX6_start_17 : decode cX6_start 17 = .ok (.aload_n 0, 1) := by decide +kernel
theorem dX6_start_18 : decode cX6_start 18 = .ok (.getfield 40, 3) := by decide +kernel
theorem dX6_start_21 : decode cX6_start 21 = .ok (.getfield 93, 3) := by decide +kernel
theorem dX6_start_24 : decode cX6_start 24 = .ok (.lconst 0, 1) := by decide +kernel
theorem dX6_start_25 : decode cX6_start 25 = .ok (.lcmp, 1) := by decide +kernel
theorem dX6_start_26 : decode cX6_start 26 = .ok (.ifCond .ne 5, 3) := by decide +kernel
theorem dX6_start_29 : decode cX6_start 29 = .ok (.iconst 0, 1) := by decide +kernel
theorem dX6_start_30 : decode cX6_start 30 = .ok (.ireturn, 1) := by decide +kernel
theorem dX6_start_31 : decode cX6_start 31 = .ok (.aload_n 0, 1) := by decide +kernel
theorem dX6_start_32 : decode cX6_start 32 = .ok (.getfield 19, 3) := by decide +kernel
theorem dX6_start_35 : decode cX6_start 35 = .ok (.iconst 1, 1) := by decide +kernel
theorem dX6_start_36 : decode cX6_start 36 = .ok (.putfield 100, 3) := by decide +kernel
theorem dX6_start_39 : decode cX6_start 39 = .ok (.iconst 1, 1) := by decide +kernel
theorem dX6_start_40 : decode cX6_start 40 = .ok (.ireturn, 1) := by decide +kernel
set_option maxRecDepth 20000 in
theorem ggX6_stop_X4_orderBrake : GoodIn wsX6_stop wsX4_orderBrake := goodIn_r _ [6, 7, 8, 9, 10, 23, 24, 25, 26, 27, 28] (by decide +kernel) (by decide +kernel)
set_option maxRecDepth 20000 in
theorem gX6_stop_X4_orderBrake : GoodIn wsX6_stop (wsV RX6 103 RX4 yX4_orderBrake wsX4_orderBrake) := goodIn_app (goodIn_of _ (by decide +kernel)) ggX6_stop_X4_orderBrake
theorem dX6_stop_0 : decode cX6_stop 0 = .ok (.aload_n 0, 1) := by decide +kernel
theorem dX6_stop_1 : decode cX6_stop 1 = .ok (.getfield 19, 3) := by decide +kernel
theorem dX6_stop_4 : decode cX6_stop 4 = .ok (.invokevirtual 103, 3) := by decide +kernel
theorem dX6_stop_7 : decode cX6_stop 7 = .ok (.ireturn, 1) := by decide +kernel
set_option maxRecDepth 20000 in
theorem ggX6_turn_X4_stands : GoodIn wsX6_turn wsX4_stands := goodIn_r _ [12, 13, 156, 157, 158, 159, 160, 161] (by decide +kernel) (by decide +kernel)
set_option maxRecDepth 20000 in
theorem gX6_turn_X4_stands : GoodIn wsX6_turn (wsV RX6 78 RX4 yX4_stands wsX4_stands) := goodIn_app (goodIn_of _ (by decide +kernel)) ggX6_turn_X4_stands
set_option maxRecDepth 20000 in
theorem ggX6_turn_X6_sixteenths : GoodIn wsX6_turn wsX6_sixteenths := goodIn_r _ [17, 18] (by decide +kernel) (by decide +kernel)
set_option maxRecDepth 20000 in
theorem gX6_turn_X6_sixteenths : GoodIn wsX6_turn (va_wsS RX6 120 yX6_sixteenths wsX6_sixteenths) := goodIn_app (goodIn_of _ (by decide +kernel)) ggX6_turn_X6_sixteenths
set_option maxRecDepth 20000 in
theorem ggX6_turn_X6_goForwards : GoodIn wsX6_turn wsX6_goForwards := goodIn_r _ [22, 6, 8, 9, 10, 11, 12, 13, 23, 24, 25, 26, 27, 28, 29, 30, 31, 32, 33, 34, 35, 36, 37, 38, 39, 16, 40, 41, 42, 43, 44, 45, 46, 47, 48, 49, 50, 51, 52, 53, 54, 55, 56, 57, 58, 59, 60, 61, 62, 63, 64, 65, 66, 67, 68, 69, 70, 71, 72, 73, 74, 75, 76, 77, 78, 79, 80, 81, 82, 83, 84, 85, 86, 87, 88, 89, 90, 91, 92, 93, 94, 95, 96, 97, 98, 99, 100, 101, 102, 103, 104, 105, 106, 107, 108, 109, 110, 111, 112, 113, 114, 115, 116, 117, 118, 119, 120, 121, 122, 123, 124, 125, 126, 127, 128, 129, 130, 131, 132, 133, 134, 135, 136, 137, 138, 139, 144, 145, 146, 147, 148, 149, 150, 151, 152, 153, 154, 155, 156, 157, 158, 159, 160, 161, 162, 163, 164, 165, 166, 167, 168, 169, 170, 171, 172, 173, 174, 175, 176, 177, 178, 179, 180, 181, 182] (by decide +kernel) (by decide +kernel)
set_option maxRecDepth 20000 in
theorem gX6_turn_X6_goForwards : GoodIn wsX6_turn (wsV RX6 124 RX6 yX6_goForwards wsX6_goForwards) := goodIn_app (goodIn_of _ (by decide +kernel)) ggX6_turn_X6_goForwards
set_option maxRecDepth 20000 in
theorem ggX6_turn_X6_degrees : GoodIn wsX6_turn wsX6_degrees := goodIn_r _ [142, 143] (by decide +kernel) (by decide +kernel)
set_option maxRecDepth 20000 in
theorem gX6_turn_X6_degrees : GoodIn wsX6_turn (va_wsS RX6 128 yX6_degrees wsX6_degrees) := goodIn_app (goodIn_of _ (by decide +kernel)) ggX6_turn_X6_degrees
theorem dX6_turn_0 : decode cX6_turn 0 = .ok (.aload_n 0, 1) := by decide +kernel
theorem dX6_turn_1 : decode cX6_turn 1 = .ok (.getfield 65, 3) := by decide +kernel
theorem dX6_turn_4 : decode cX6_turn 4 = .ok (.ifCond .eq 13, 3) := by decide +kernel
theorem dX6_turn_7 : decode cX6_turn 7 = .ok (.aload_n 0, 1) := by decide +kernel
theorem dX6_turn_8 : decode cX6_turn 8 = .ok (.getfield 19, 3) := by decide +kernel
theorem dX6_turn_11 : decode cX6_turn 11 = .ok (.invokevirtual 78, 3) := by decide +kernel
theorem dX6_turn_14 : decode cX6_turn 14 = .ok (.ifCond .eq 13, 3) := by decide +kernel
theorem dX6_turn_17 : decode cX6_turn 17 = .ok (.new 106, 3) := by decide +kernel
theorem dX6_turn_20 : decode cX6_turn 20 = .ok (.dup, 1) := by decide +kernel
theorem dX6_turn_21 : decode cX6_turn 21 = .ok (.ldc 108, 2) := by decide +kernel
theorem dX6_turn_23 : decode cX6_turn 23 = .ok (.invokespecial 110, 3) := by decide +kernel
theorem dX6_turn_26 : decode cX6_turn 26 = .ok (.athrow, 1) := by decide +kernel
theorem dX6_turn_27 : decode cX6_turn 27 = .ok (.dload_n 1, 1) := by decide +kernel
theorem dX6_turn_28 : decode cX6_turn 28 = .ok (.dconst 0, 1) := by decide +kernel
theorem dX6_turn_29 : decode cX6_turn 29 = .ok (.dcmp .l, 1) := by decide +kernel
theorem dX6_turn_30 : decode cX6_turn 30 = .ok (.ifCond .lt 11, 3) := by decide +kernel
theorem dX6_turn_33 : decode cX6_turn 33 = .ok (.dload_n 1, 1) := by decide +kernel
theorem dX6_turn_34 : decode cX6_turn 34 = .ok (.ldc2_w 113, 3) := by decide +kernel
theorem dX6_turn_37 : decode cX6_turn 37 = .ok (.dcmp .g, 1) := by decide +kernel
theorem dX6_turn_38 : decode cX6_turn 38 = .ok (.ifCond .le 13, 3) := by decide +kernel
theorem dX6_turn_41 : decode cX6_turn 41 = .ok (.new 115, 3) := by decide +kernel
theorem dX6_turn_44 : decode cX6_turn 44 = .ok (.dup, 1) := by decide +kernel
theorem dX6_turn_45 : decode cX6_turn 45 = .ok (.ldc 117, 2) := by decide +kernel
theorem dX6_turn_47 : decode cX6_turn 47 = .ok (.invokespecial 119, 3) := by decide +kernel
theorem dX6_turn_50 : decode cX6_turn 50 = .ok (.athrow, 1) := by decide +kernel
theorem dX6_turn_51 : decode cX6_turn 51 = .ok (.aload_n 0, 1) := by decide +kernel
theorem dX6_turn_52 : decode cX6_turn 52 = .ok (.dload_n 1, 1) := by decide +kernel
theorem dX6_turn_53 : decode cX6_turn 53 = .ok (.invokestatic 120, 3) := by decide +kernel
theorem dX6_turn_56 : decode cX6_turn 56 = .ok (.invokevirtual 124, 3) := by decide +kernel
theorem dX6_turn_59 : decode cX6_turn 59 = .ok (.invokestatic 128, 3) := by decide +kernel
theorem dX6_turn_62 : decode cX6_turn 62 = .ok (.dreturn, 1) := by decide +kernel
set_option maxRecDepth 20000 in
theorem ggX6_back_X4_stands : GoodIn wsX6_back wsX4_stands := goodIn_r _ [13, 14, 101, 102, 103, 104, 105, 106] (by decide +kernel) (by decide +kernel)
set_option maxRecDepth 20000 in
theorem gX6_back_X4_stands : GoodIn wsX6_back (wsV RX6 78 RX4 yX4_stands wsX4_stands) := goodIn_app (goodIn_of _ (by decide +kernel)) ggX6_back_X4_stands
set_option maxRecDepth 20000 in
theorem ggX6_back_X6_sixteenths : GoodIn wsX6_back wsX6_sixteenths := goodIn_r _ [18, 19] (by decide +kernel) (by decide +kernel)
set_option maxRecDepth 20000 in
theorem gX6_back_X6_sixteenths : GoodIn wsX6_back (va_wsS RX6 120 yX6_sixteenths wsX6_sixteenths) := goodIn_app (goodIn_of _ (by decide +kernel)) ggX6_back_X6_sixteenths
set_option maxRecDepth 20000 in
theorem ggX6_back_X6_goBackwards : GoodIn wsX6_back wsX6_goBackwards := goodIn_r _ [23, 6, 24, 25, 26, 12, 27, 28, 29, 30, 17, 31, 32, 33, 34, 35, 36, 37, 7, 38, 39, 40, 41, 42, 43, 44, 45, 46, 47, 48, 49, 50, 51, 52, 53, 54, 55, 56, 57, 58, 59, 60, 61, 62, 63, 64, 65, 66, 67, 68, 69, 70, 71, 72, 73, 78, 79, 80, 81, 82, 83, 84, 85, 86, 87, 88, 89, 101, 102, 103, 104, 105, 106, 107, 108, 109, 110, 111, 112, 113, 90, 91, 92, 93, 94, 95, 96, 97, 98, 99, 100] (by decide +kernel) (by decide +kernel)
set_option maxRecDepth 20000 in
theorem gX6_back_X6_goBackwards : GoodIn wsX6_back (wsV RX6 138 RX6 yX6_goBackwards wsX6_goBackwards) := goodIn_app (goodIn_of _ (by decide +kernel)) ggX6_back_X6_goBackwards
set_option maxRecDepth 20000 in
theorem ggX6_back_X6_degrees : GoodIn wsX6_back wsX6_degrees := goodIn_r _ [76, 77] (by decide +kernel) (by decide +kernel)
set_option maxRecDepth 20000 in
theorem gX6_back_X6_degrees : GoodIn wsX6_back (va_wsS RX6 128 yX6_degrees wsX6_degrees) := goodIn_app (goodIn_of _ (by decide +kernel)) ggX6_back_X6_degrees
theorem dX6_back_0 : decode cX6_back 0 = .ok (.aload_n 0, 1) := by decide +kernel
theorem dX6_back_1 : decode cX6_back 1 = .ok (.getfield 65, 3) := by decide +kernel
theorem dX6_back_4 : decode cX6_back 4 = .ok (.ifCond .eq 25, 3) := by decide +kernel
theorem dX6_back_7 : decode cX6_back 7 = .ok (.aload_n 0, 1) := by decide +kernel
theorem dX6_back_8 : decode cX6_back 8 = .ok (.getfield 19, 3) := by decide +kernel
theorem dX6_back_11 : decode cX6_back 11 = .ok (.invokevirtual 78, 3) := by decide +kernel
theorem dX6_back_14 : decode cX6_back 14 = .ok (.ifCond .eq 15, 3) := by decide +kernel
theorem dX6_back_17 : decode cX6_back 17 = .ok (.aload_n 0, 1) := by decide +kernel
theorem dX6_back_18 : decode cX6_back 18 = .ok (.getfield 40, 3) := by decide +kernel
theorem dX6_back_21 : decode cX6_back 21 = .ok (.getfield 93, 3) := by decide +kernel
theorem dX6_back_24 : decode cX6_back 24 = .ok (.lconst 0, 1) := by decide +kernel
theorem dX6_back_25 : decode cX6_back 25 = .ok (.lcmp, 1) := by decide +kernel
theorem dX6_back_26 : decode cX6_back 26 = .ok (.ifCond .ne 13, 3) := by decide +kernel
theorem dX6_back_29 : decode cX6_back 29 = .ok (.new 106, 3) := by decide +kernel
theorem dX6_back_32 : decode cX6_back 32 = .ok (.dup, 1) := by decide +kernel
theorem dX6_back_33 : decode cX6_back 33 = .ok (.ldc 132, 2) := by decide +kernel
theorem dX6_back_35 : decode cX6_back 35 = .ok (.invokespecial 110, 3) := by decide +kernel
theorem dX6_back_38 : decode cX6_back 38 = .ok (.athrow, 1) := by decide +kernel
theorem dX6_back_39 : decode cX6_back 39 = .ok (.dload_n 1, 1) := by decide +kernel
theorem dX6_back_40 : decode cX6_back 40 = .ok (.dconst 0, 1) := by decide +kernel
theorem dX6_back_41 : decode cX6_back 41 = .ok (.dcmp .l, 1) := by decide +kernel
theorem dX6_back_42 : decode cX6_back 42 = .ok (.ifCond .lt 11, 3) := by decide +kernel
theorem dX6_back_45 : decode cX6_back 45 = .ok (.dload_n 1, 1) := by decide +kernel
theorem dX6_back_46 : decode cX6_back 46 = .ok (.ldc2_w 134, 3) := by decide +kernel
theorem dX6_back_49 : decode cX6_back 49 = .ok (.dcmp .g, 1) := by decide +kernel
theorem dX6_back_50 : decode cX6_back 50 = .ok (.ifCond .le 13, 3) := by decide +kernel
theorem dX6_back_53 : decode cX6_back 53 = .ok (.new 115, 3) := by decide +kernel
theorem dX6_back_56 : decode cX6_back 56 = .ok (.dup, 1) := by decide +kernel
theorem dX6_back_57 : decode cX6_back 57 = .ok (.ldc 136, 2) := by decide +kernel
theorem dX6_back_59 : decode cX6_back 59 = .ok (.invokespecial 119, 3) := by decide +kernel
theorem dX6_back_62 : decode cX6_back 62 = .ok (.athrow, 1) := by decide +kernel
theorem dX6_back_63 : decode cX6_back 63 = .ok (.aload_n 0, 1) := by decide +kernel
theorem dX6_back_64 : decode cX6_back 64 = .ok (.dload_n 1, 1) := by decide +kernel
theorem dX6_back_65 : decode cX6_back 65 = .ok (.invokestatic 120, 3) := by decide +kernel
theorem dX6_back_68 : decode cX6_back 68 = .ok (.invokevirtual 138, 3) := by decide +kernel
theorem dX6_back_71 : decode cX6_back 71 = .ok (.aload_n 0, 1) := by decide +kernel
theorem dX6_back_72 : decode cX6_back 72 = .ok (.getfield 19, 3) := by decide +kernel
theorem dX6_back_75 : decode cX6_back 75 = .ok (.getfield 142, 3) := by decide +kernel
theorem dX6_back_78 : decode cX6_back 78 = .ok (.invokestatic 128, 3) := by decide +kernel
theorem dX6_back_81 : decode cX6_back 81 = .ok (.dreturn, 1) := by decide +kernel
theorem dX6_weft_0 : decode cX6_weft 0 = .ok (.aload_n 0, 1) := by decide +kernel
theorem dX6_weft_1 : decode cX6_weft 1 = .ok (.getfield 65, 3) := by decide +kernel
theorem dX6_weft_4 : decode cX6_weft 4 = .ok (.ifCond .ne 5, 3) := by decide +kernel
theorem dX6_weft_7 : decode cX6_weft 7 = .ok (.iconst 0, 1) := by decide +kernel
theorem dX6_weft_8 : decode cX6_weft 8 = .ok (.ireturn, 1) := by decide +kernel
theorem dX6_weft_9 : decode cX6_weft 9 = .ok (.aload_n 0, 1) := by decide +kernel
theorem dX6_weft_10 : decode cX6_weft 10 = .ok (.iload_n 1, 1) := by decide +kernel
theorem dX6_weft_11 : decode cX6_weft 11 = .ok (.putfield 61, 3) := by decide +kernel
theorem dX6_weft_14 : decode cX6_weft 14 = .ok (.iconst 1, 1) := by decide +kernel
theorem dX6_weft_15 : decode cX6_weft 15 = .ok (.ireturn, 1) := by decide +kernel
set_option maxRecDepth 20000 in
theorem ggX6_findPick_X4_stands : GoodIn wsX6_findPick wsX4_stands := goodIn_r _ [8, 9, 77, 78, 79, 80, 81, 82] (by decide +kernel) (by decide +kernel)
set_option maxRecDepth 20000 in
theorem gX6_findPick_X4_stands : GoodIn wsX6_findPick (wsV RX6 78 RX4 yX4_stands wsX4_stands) := goodIn_app (goodIn_of _ (by decide +kernel)) ggX6_findPick_X4_stands
set_option maxRecDepth 20000 in
theorem ggX6_findPick_X6_goBackwards : GoodIn wsX6_findPick wsX6_goBackwards := goodIn_r _ [14, 2, 15, 16, 17, 7, 18, 19, 20, 21, 13, 22, 3, 23, 24, 25, 26, 27, 28, 29, 30, 31, 32, 33, 34, 35, 36, 37, 38, 39, 40, 41, 42, 43, 44, 45, 46, 47, 48, 49, 50, 51, 52, 53, 54, 55, 56, 57, 58, 59, 60, 61, 62, 63, 64, 65, 66, 67, 68, 69, 70, 71, 72, 73, 74, 75, 76, 77, 78, 79, 80, 81, 82, 83, 84, 85, 86, 87, 88, 89, 90, 91, 92, 93, 94, 95, 96, 97, 98, 99, 100] (by decide +kernel) (by decide +kernel)
set_option maxRecDepth 20000 in
theorem gX6_findPick_X6_goBackwards : GoodIn wsX6_findPick (wsV RX6 138 RX6 yX6_goBackwards wsX6_goBackwards) := goodIn_app (goodIn_of _ (by decide +kernel)) ggX6_findPick_X6_goBackwards
theorem dX6_findPick_0 : decode cX6_findPick 0 = .ok (.aload_n 0, 1) := by decide +kernel
theorem dX6_findPick_1 : decode cX6_findPick 1 = .ok (.getfield 65, 3) := by decide +kernel
theorem dX6_findPick_4 : decode cX6_findPick 4 = .ok (.ifCond .eq 21, 3) := by decide +kernel
theorem dX6_findPick_7 : decode cX6_findPick 7 = .ok (.aload_n 0, 1) := by decide +kernel
theorem dX6_findPick_8 : decode cX6_findPick 8 = .ok (.getfield 19, 3) := by decide +kernel
theorem dX6_findPick_11 : decode cX6_findPick 11 = .ok (.invokevirtual 78, 3) := by decide +kernel
theorem dX6_findPick_14 : decode cX6_findPick 14 = .ok (.ifCond .eq 11, 3) := by decide +kernel
theorem dX6_findPick_17 : decode cX6_findPick 17 = .ok (.aload_n 0, 1) := by decide +kernel
theorem dX6_findPick_18 : decode cX6_findPick 18 = .ok (.getfield 55, 3) := by decide +kernel
theorem dX6_findPick_21 : decode cX6_findPick 21 = .ok (.iconst 2, 1) := by decide +kernel
theorem dX6_findPick_22 : decode cX6_findPick 22 = .ok (.if_icmp .eq 5, 3) := by decide +kernel
theorem dX6_findPick_25 : decode cX6_findPick 25 = .ok (.iconst 0, 1) := by decide +kernel
theorem dX6_findPick_26 : decode cX6_findPick 26 = .ok (.ireturn, 1) := by decide +kernel
theorem dX6_findPick_27 : decode cX6_findPick 27 = .ok (.aload_n 0, 1) := by decide +kernel
theorem dX6_findPick_28 : decode cX6_findPick 28 = .ok (.getfield 19, 3) := by decide +kernel
theorem dX6_findPick_31 : decode cX6_findPick 31 = .ok (.getfield 142, 3) := by decide +kernel
theorem dX6_findPick_34 : decode cX6_findPick 34 = .ok (.sipush 960, 3) := by decide +kernel
theorem dX6_findPick_37 : decode cX6_findPick 37 = .ok (.if_icmp .le 18, 3) := by decide +kernel
theorem dX6_findPick_40 : decode cX6_findPick 40 = .ok (.aload_n 0, 1) := by decide +kernel
theorem dX6_findPick_41 : decode cX6_findPick 41 = .ok (.aload_n 0, 1) := by decide +kernel
theorem dX6_findPick_42 : decode cX6_findPick 42 = .ok (.getfield 19, 3) := by decide +kernel
theorem dX6_findPick_45 : decode cX6_findPick 45 = .ok (.getfield 142, 3) := by decide +kernel
theorem dX6_findPick_48 : decode cX6_findPick 48 = .ok (.sipush 960, 3) := by decide +kernel
theorem dX6_findPick_51 : decode cX6_findPick 51 = .ok (.isub, 1) := by decide +kernel
theorem dX6_findPick_52 : decode cX6_findPick 52 = .ok (.invokevirtual 138, 3) := by decide +kernel
theorem dX6_findPick_55 : decode cX6_findPick 55 = .ok (.iconst 1, 1) := by decide +kernel
theorem dX6_findPick_56 : decode cX6_findPick 56 = .ok (.ireturn, 1) := by decide +kernel
set_option maxRecDepth 20000 in
theorem ggX6_jump_X4_stands : GoodIn wsX6_jump wsX4_stands := goodIn_r _ [9, 10, 29, 30, 31, 32, 33, 34] (by decide +kernel) (by decide +kernel)
set_option maxRecDepth 20000 in
theorem gX6_jump_X4_stands : GoodIn wsX6_jump (wsV RX6 78 RX4 yX4_stands wsX4_stands) := goodIn_app (goodIn_of _ (by decide +kernel)) ggX6_jump_X4_stands
set_option maxRecDepth 20000 in
theorem ggX6_jump_X1_has : GoodIn wsX6_jump wsX1_has := goodIn_r _ [15, 16, 35, 36, 37, 38, 39, 40, 41, 42, 43, 44, 45] (by decide +kernel) (by decide +kernel)
set_option maxRecDepth 20000 in
theorem gX6_jump_X1_has : GoodIn wsX6_jump (wsV RX6 145 RX1 yX1_has wsX1_has) := goodIn_app (goodIn_of _ (by decide +kernel)) ggX6_jump_X1_has
theorem dX6_jump_0 : decode cX6_jump 0 = .ok (.aload_n 0, 1) := by decide +kernel
theorem dX6_jump_1 : decode cX6_jump 1 = .ok (.getfield 65, 3) := by decide +kernel
theorem dX6_jump_4 : decode cX6_jump 4 = .ok (.ifCond .eq 37, 3) := by decide +kernel
theorem dX6_jump_7 : decode cX6_jump 7 = .ok (.aload_n 0, 1) := by decide +kernel
theorem dX6_jump_8 : decode cX6_jump 8 = .ok (.getfield 19, 3) := by decide +kernel
theorem dX6_jump_11 : decode cX6_jump 11 = .ok (.invokevirtual 78, 3) := by decide +kernel
theorem dX6_jump_14 : decode cX6_jump 14 = .ok (.ifCond .eq 27, 3) := by decide +kernel
theorem dX6_jump_17 : decode cX6_jump 17 = .ok (.aload_n 0, 1) := by decide +kernel
theorem dX6_jump_18 : decode cX6_jump 18 = .ok (.getfield 19, 3) := by decide +kernel
theorem dX6_jump_21 : decode cX6_jump 21 = .ok (.getfield 142, 3) := by decide +kernel
theorem dX6_jump_24 : decode cX6_jump 24 = .ok (.sipush 480, 3) := by decide +kernel
theorem dX6_jump_27 : decode cX6_jump 27 = .ok (.if_icmp .ge 14, 3) := by decide +kernel
theorem dX6_jump_30 : decode cX6_jump 30 = .ok (.aload_n 0, 1) := by decide +kernel
theorem dX6_jump_31 : decode cX6_jump 31 = .ok (.getfield 40, 3) := by decide +kernel
theorem dX6_jump_34 : decode cX6_jump 34 = .ok (.lload_n 1, 1) := by decide +kernel
theorem dX6_jump_35 : decode cX6_jump 35 = .ok (.invokevirtual 145, 3) := by decide +kernel
theorem dX6_jump_38 : decode cX6_jump 38 = .ok (.ifCond .ne 5, 3) := by decide +kernel
theorem dX6_jump_41 : decode cX6_jump 41 = .ok (.iconst 0, 1) := by decide +kernel
theorem dX6_jump_42 : decode cX6_jump 42 = .ok (.ireturn, 1) := by decide +kernel
theorem dX6_jump_43 : decode cX6_jump 43 = .ok (.aload_n 0, 1) := by decide +kernel
theorem dX6_jump_44 : decode cX6_jump 44 = .ok (.lload_n 1, 1) := by decide +kernel
theorem dX6_jump_45 : decode cX6_jump 45 = .ok (.putfield 44, 3) := by decide +kernel
theorem dX6_jump_48 : decode cX6_jump 48 = .ok (.iconst 1, 1) := by decide +kernel
theorem dX6_jump_49 : decode cX6_jump 49 = .ok (.ireturn, 1) := by decide +kernel
set_option maxRecDepth 20000 in
theorem ggX6_speed_X4_stands : GoodIn wsX6_speed wsX4_stands := goodIn_r _ [9, 10, 23, 24, 25, 26, 27, 28] (by decide +kernel) (by decide +kernel)
set_option maxRecDepth 20000 in
theorem gX6_speed_X4_stands : GoodIn wsX6_speed (wsV RX6 78 RX4 yX4_stands wsX4_stands) := goodIn_app (goodIn_of _ (by decide +kernel)) ggX6_speed_X4_stands
theorem dX6_speed_0 : decode cX6_speed 0 = .ok (.aload_n 0, 1) := by decide +kernel
theorem dX6_speed_1 : decode cX6_speed 1 = .ok (.getfield 19, 3) := by decide +kernel
theorem dX6_speed_4 : decode cX6_speed 4 = .ok (.invokevirtual 78, 3) := by decide +kernel
theorem dX6_speed_7 : decode cX6_speed 7 = .ok (.ifCond .eq 17, 3) := by decide +kernel
theorem dX6_speed_10 : decode cX6_speed 10 = .ok (.fload_n 1, 1) := by decide +kernel
theorem dX6_speed_11 : decode cX6_speed 11 = .ok (.ldc 149, 2) := by decide +kernel
theorem dX6_speed_13 : decode cX6_speed 13 = .ok (.fcmp .l, 1) := by decide +kernel
theorem dX6_speed_14 : decode cX6_speed 14 = .ok (.ifCond .lt 10, 3) := by decide +kernel
theorem dX6_speed_17 : decode cX6_speed 17 = .ok (.fload_n 1, 1) := by decide +kernel
theorem dX6_speed_18 : decode cX6_speed 18 = .ok (.ldc 150, 2) := by decide +kernel
theorem dX6_speed_20 : decode cX6_speed 20 = .ok (.fcmp .g, 1) := by decide +kernel
theorem dX6_speed_21 : decode cX6_speed 21 = .ok (.ifCond .le 5, 3) := by decide +kernel
theorem dX6_speed_24 : decode cX6_speed 24 = .ok (.iconst 0, 1) := by decide +kernel
theorem dX6_speed_25 : decode cX6_speed 25 = .ok (.ireturn, 1) := by decide +kernel
theorem dX6_speed_26 : decode cX6_speed 26 = .ok (.aload_n 0, 1) := by decide +kernel
theorem dX6_speed_27 : decode cX6_speed 27 = .ok (.getfield 19, 3) := by decide +kernel
theorem dX6_speed_30 : decode cX6_speed 30 = .ok (.fload_n 1, 1) := by decide +kernel
theorem dX6_speed_31 : decode cX6_speed 31 = .ok (.ldc 151, 2) := by decide +kernel
theorem dX6_speed_33 : decode cX6_speed 33 = .ok (.fmul, 1) := by decide +kernel
theorem dX6_speed_34 : decode cX6_speed 34 = .ok (.f2i, 1) := by decide +kernel
theorem dX6_speed_35 : decode cX6_speed 35 = .ok (.putfield 152, 3) := by decide +kernel
theorem dX6_speed_38 : decode cX6_speed 38 = .ok (.iconst 1, 1) := by decide +kernel
theorem dX6_speed_39 : decode cX6_speed 39 = .ok (.ireturn, 1) := by decide +kernel
set_option maxRecDepth 20000 in
theorem ggX6_cut_X4_stand : GoodIn wsX6_cut wsX4_stand := goodIn_r _ [13, 14, 15, 41, 42, 43, 44, 45, 46] (by decide +kernel) (by decide +kernel)
set_option maxRecDepth 20000 in
theorem gX6_cut_X4_stand : GoodIn wsX6_cut (wsV RX6 155 RX4 yX4_stand wsX4_stand) := goodIn_app (goodIn_of _ (by decide +kernel)) ggX6_cut_X4_stand
set_option maxRecDepth 20000 in
theorem ggX6_cut_X0_forget : GoodIn wsX6_cut wsX0_forget := goodIn_r _ [20, 21, 47, 48, 49, 50, 51, 52, 53] (by decide +kernel) (by decide +kernel)
set_option maxRecDepth 20000 in
theorem gX6_cut_X0_forget : GoodIn wsX6_cut (wsV RX6 158 RX0 yX0_forget wsX0_forget) := goodIn_app (goodIn_of _ (by decide +kernel)) ggX6_cut_X0_forget
set_option maxRecDepth 20000 in
theorem ggX6_cut_X3_spoilLast : GoodIn wsX6_cut wsX3_spoilLast := goodIn_r _ [26, 27, 28, 54, 55, 56] (by decide +kernel) (by decide +kernel)
set_option maxRecDepth 20000 in
theorem gX6_cut_X3_spoilLast : GoodIn wsX6_cut (wsV RX6 161 RX3 yX3_spoilLast wsX3_spoilLast) := goodIn_app (goodIn_of _ (by decide +kernel)) ggX6_cut_X3_spoilLast
theorem dX6_cut_0 : decode cX6_cut 0 = .ok (.aload_n 0, 1) := by decide +kernel
theorem dX6_cut_1 : decode cX6_cut 1 = .ok (.getfield 65, 3) := by decide +kernel
theorem dX6_cut_4 : decode cX6_cut 4 = .ok (.ifCond .ne 5, 3) := by decide +kernel
theorem dX6_cut_7 : decode cX6_cut 7 = .ok (.iconst 0, 1) := by decide +kernel
theorem dX6_cut_8 : decode cX6_cut 8 = .ok (.ireturn, 1) := by decide +kernel
theorem dX6_cut_9 : decode cX6_cut 9 = .ok (.aload_n 0, 1) := by decide +kernel
theorem dX6_cut_10 : decode cX6_cut 10 = .ok (.iconst 0, 1) := by decide +kernel
theorem dX6_cut_11 : decode cX6_cut 11 = .ok (.putfield 65, 3) := by decide +kernel
theorem dX6_cut_14 : decode cX6_cut 14 = .ok (.aload_n 0, 1) := by decide +kernel
theorem dX6_cut_15 : decode cX6_cut 15 = .ok (.getfield 19, 3) := by decide +kernel
theorem dX6_cut_18 : decode cX6_cut 18 = .ok (.invokevirtual 155, 3) := by decide +kernel
theorem dX6_cut_21 : decode cX6_cut 21 = .ok (.aload_n 0, 1) := by decide +kernel
theorem dX6_cut_22 : decode cX6_cut 22 = .ok (.iconst 0, 1) := by decide +kernel
theorem dX6_cut_23 : decode cX6_cut 23 = .ok (.putfield 55, 3) := by decide +kernel
theorem dX6_cut_26 : decode cX6_cut 26 = .ok (.aload_n 0, 1) := by decide +kernel
theorem dX6_cut_27 : decode cX6_cut 27 = .ok (.iconst 0, 1) := by decide +kernel
theorem dX6_cut_28 : decode cX6_cut 28 = .ok (.putfield 61, 3) := by decide +kernel
theorem dX6_cut_31 : decode cX6_cut 31 = .ok (.aload_n 0, 1) := by decide +kernel
theorem dX6_cut_32 : decode cX6_cut 32 = .ok (.iconst 0, 1) := by decide +kernel
theorem dX6_cut_33 : decode cX6_cut 33 = .ok (.putfield 48, 3) := by decide +kernel
theorem dX6_cut_36 : decode cX6_cut 36 = .ok (.aload_n 0, 1) := by decide +kernel
theorem dX6_cut_37 : decode cX6_cut 37 = .ok (.iconst 0, 1) := by decide +kernel
theorem dX6_cut_38 : decode cX6_cut 38 = .ok (.putfield 52, 3) := by decide +kernel
theorem dX6_cut_41 : decode cX6_cut 41 = .ok (.aload_n 0, 1) := by decide +kernel
theorem dX6_cut_42 : decode cX6_cut 42 = .ok (.getfield 26, 3) := by decide +kernel
theorem dX6_cut_45 : decode cX6_cut 45 = .ok (.invokevirtual 158, 3) := by decide +kernel
theorem dX6_cut_48 : decode cX6_cut 48 = .ok (.iload_n 1, 1) := by decide +kernel
theorem dX6_cut_49 : decode cX6_cut 49 = .ok (.ifCond .eq 10, 3) := by decide +kernel
theorem dX6_cut_52 : decode cX6_cut 52 = .ok (.aload_n 0, 1) := by decide +kernel
theorem dX6_cut_53 : decode cX6_cut 53 = .ok (.getfield 33, 3) := by decide +kernel
theorem dX6_cut_56 : decode cX6_cut 56 = .ok (.invokevirtual 161, 3) := by decide +kernel
theorem dX6_cut_59 : decode cX6_cut 59 = .ok (.iconst 1, 1) := by decide +kernel
theorem dX6_cut_60 : decode cX6_cut 60 = .ok (.ireturn, 1) := by decide +kernel
set_option maxRecDepth 20000 in
theorem ggX6_on_X6_recall : GoodIn wsX6_on wsX6_recall := goodIn_r _ [9, 10, 3, 11, 12, 13, 14, 15, 16, 17, 18, 19, 20, 21, 22, 23, 24, 25, 26, 27, 28, 29, 30, 31, 32, 33, 34, 35, 36, 37, 38, 39, 40, 41, 42, 43, 44, 45, 46, 47, 48, 49, 50, 51, 52, 53, 54, 55, 56, 57, 58, 59, 60, 61, 62, 63, 64, 65, 66, 67, 68, 69, 70, 71, 72, 73] (by decide +kernel) (by decide +kernel)
set_option maxRecDepth 20000 in
theorem gX6_on_X6_recall : GoodIn wsX6_on (wsV RX6 164 RX6 yX6_recall wsX6_recall) := goodIn_app (goodIn_of _ (by decide +kernel)) ggX6_on_X6_recall
theorem dX6_on_0 : decode cX6_on 0 = .ok (.aload_n 0, 1) := by decide +kernel
theorem dX6_on_1 : decode cX6_on 1 = .ok (.getfield 65, 3) := by decide +kernel
theorem dX6_on_4 : decode cX6_on 4 = .ok (.ifCond .eq 5, 3) := by decide +kernel
theorem dX6_on_7 : decode cX6_on 7 = .ok (.iconst 0, 1) := by decide +kernel
theorem dX6_on_8 : decode cX6_on 8 = .ok (.ireturn, 1) := by decide +kernel
theorem dX6_on_9 : decode cX6_on 9 = .ok (.aload_n 0, 1) := by decide +kernel
theorem dX6_on_10 : decode cX6_on 10 = .ok (.iconst 1, 1) := by decide +kernel
theorem dX6_on_11 : decode cX6_on 11 = .ok (.putfield 65, 3) := by decide +kernel
theorem dX6_on_14 : decode cX6_on 14 = .ok (.aload_n 0, 1) := by decide +kernel
theorem dX6_on_15 : decode cX6_on 15 = .ok (.aload_n 0, 1) := by decide +kernel
theorem dX6_on_16 : decode cX6_on 16 = .ok (.invokevirtual 164, 3) := by decide +kernel
theorem dX6_on_19 : decode cX6_on 19 = .ok (.putfield 44, 3) := by decide +kernel
theorem dX6_on_22 : decode cX6_on 22 = .ok (.aload_n 0, 1) := by decide +kernel
theorem dX6_on_23 : decode cX6_on 23 = .ok (.aload_n 0, 1) := by decide +kernel
theorem dX6_on_24 : decode cX6_on 24 = .ok (.getfield 19, 3) := by decide +kernel
theorem dX6_on_27 : decode cX6_on 27 = .ok (.getfield 142, 3) := by decide +kernel
theorem dX6_on_30 : decode cX6_on 30 = .ok (.sipush 1440, 3) := by decide +kernel
theorem dX6_on_33 : decode cX6_on 33 = .ok (.if_icmp .lt 7, 3) := by decide +kernel
theorem dX6_on_36 : decode cX6_on 36 = .ok (.iconst 1, 1) := by decide +kernel
theorem dX6_on_37 : decode cX6_on 37 = .ok (.goto 4, 3) := by decide +kernel
theorem dX6_on_40 : decode cX6_on 40 = .ok (.iconst 0, 1) := by decide +kernel
theorem dX6_on_41 : decode cX6_on 41 = .ok (.putfield 55, 3) := by decide +kernel
theorem dX6_on_44 : decode cX6_on 44 = .ok (.iconst 1, 1) := by decide +kernel
theorem dX6_on_45 : decode cX6_on 45 = .ok (.ireturn, 1) := by decide +kernel
set_option maxRecDepth 20000 in
theorem ggX6_angle_X6_degrees : GoodIn wsX6_angle wsX6_degrees := goodIn_r _ [5, 6] (by decide +kernel) (by decide +kernel)
set_option maxRecDepth 20000 in
theorem gX6_angle_X6_degrees : GoodIn wsX6_angle (va_wsS RX6 128 yX6_degrees wsX6_degrees) := goodIn_app (goodIn_of _ (by decide +kernel)) ggX6_angle_X6_degrees
theorem dX6_angle_0 : decode cX6_angle 0 = .ok (.aload_n 0, 1) := by decide +kernel
theorem dX6_angle_1 : decode cX6_angle 1 = .ok (.getfield 19, 3) := by decide +kernel
theorem dX6_angle_4 : decode cX6_angle 4 = .ok (.getfield 142, 3) := by decide +kernel
theorem dX6_angle_7 : decode cX6_angle 7 = .ok (.invokestatic 128, 3) := by decide +kernel
theorem dX6_angle_10 : decode cX6_angle 10 = .ok (.dreturn, 1) := by decide +kernel
theorem dX6_left_0 : decode cX6_left 0 = .ok (.aload_n 0, 1) := by decide +kernel
theorem dX6_left_1 : decode cX6_left 1 = .ok (.getfield 19, 3) := by decide +kernel
theorem dX6_left_4 : decode cX6_left 4 = .ok (.getfield 168, 3) := by decide +kernel
theorem dX6_left_7 : decode cX6_left 7 = .ok (.i2f, 1) := by decide +kernel
theorem dX6_left_8 : decode cX6_left 8 = .ok (.ldc 171, 2) := by decide +kernel
theorem dX6_left_10 : decode cX6_left 10 = .ok (.fdiv, 1) := by decide +kernel
theorem dX6_left_11 : decode cX6_left 11 = .ok (.freturn, 1) := by decide +kernel
theorem dX6_roll_0 : decode cX6_roll 0 = .ok (.dload_n 1, 1) := by decide +kernel
theorem dX6_roll_1 : decode cX6_roll 1 = .ok (.ldc2_w 172, 3) := by decide +kernel
theorem dX6_roll_4 : decode cX6_roll 4 = .ok (.dcmp .l, 1) := by decide +kernel
theorem dX6_roll_5 : decode cX6_roll 5 = .ok (.ifCond .lt 11, 3) := by decide +kernel
theorem dX6_roll_8 : decode cX6_roll 8 = .ok (.dload_n 1, 1) := by decide +kernel
theorem dX6_roll_9 : decode cX6_roll 9 = .ok (.ldc2_w 174, 3) := by decide +kernel
theorem dX6_roll_12 : decode cX6_roll 12 = .ok (.dcmp .g, 1) := by decide +kernel
theorem dX6_roll_13 : decode cX6_roll 13 = .ok (.ifCond .le 5, 3) := by decide +kernel
theorem dX6_roll_16 : decode cX6_roll 16 = .ok (.dconst 0, 1) := by decide +kernel
theorem dX6_roll_17 : decode cX6_roll 17 = .ok (.dreturn, 1) := by decide +kernel
theorem dX6_roll_18 : decode cX6_roll 18 = .ok (.aload_n 0, 1) := by decide +kernel
theorem dX6_roll_19 : decode cX6_roll 19 = .ok (.getfield 26, 3) := by decide +kernel
theorem dX6_roll_22 : decode cX6_roll 22 = .ok (.getfield 176, 3) := by decide +kernel
theorem dX6_roll_25 : decode cX6_roll 25 = .ok (.dload_n 1, 1) := by decide +kernel
theorem dX6_roll_26 : decode cX6_roll 26 = .ok (.ldc2_w 179, 3) := by decide +kernel
theorem dX6_roll_29 : decode cX6_roll 29 = .ok (.dmul, 1) := by decide +kernel
theorem dX6_roll_30 : decode cX6_roll 30 = .ok (.d2l, 1) := by decide +kernel
theorem dX6_roll_31 : decode cX6_roll 31 = .ok (.lmul, 1) := by decide +kernel
theorem dX6_roll_32 : decode cX6_roll 32 = .ok (.lstore_n 3, 1) := by decide +kernel
theorem dX6_roll_33 : decode cX6_roll 33 = .ok (.lload_n 3, 1) := by decide +kernel
theorem dX6_roll_34 : decode cX6_roll 34 = .ok (.ldc2_w 181, 3) := by decide +kernel
theorem dX6_roll_37 : decode cX6_roll 37 = .ok (.lrem, 1) := by decide +kernel
theorem dX6_roll_38 : decode cX6_roll 38 = .ok (.l2d, 1) := by decide +kernel
theorem dX6_roll_39 : decode cX6_roll 39 = .ok (.ldc2_w 183, 3) := by decide +kernel
theorem dX6_roll_42 : decode cX6_roll 42 = .ok (.ddiv, 1) := by decide +kernel
theorem dX6_roll_43 : decode cX6_roll 43 = .ok (.dreturn, 1) := by decide +kernel
theorem dX6_letOff_0 : decode cX6_letOff 0 = .ok (.fload_n 1, 1) := by decide +kernel
theorem dX6_letOff_1 : decode cX6_letOff 1 = .ok (.ldc 185, 2) := by decide +kernel
theorem dX6_letOff_3 : decode cX6_letOff 3 = .ok (.fcmp .l, 1) := by decide +kernel
theorem dX6_letOff_4 : decode cX6_letOff 4 = .ok (.ifCond .lt 10, 3) := by decide +kernel
theorem dX6_letOff_7 : decode cX6_letOff 7 = .ok (.fload_n 1, 1) := by decide +kernel
theorem dX6_letOff_8 : decode cX6_letOff 8 = .ok (.ldc 186, 2) := by decide +kernel
theorem dX6_letOff_10 : decode cX6_letOff 10 = .ok (.fcmp .g, 1) := by decide +kernel
theorem dX6_letOff_11 : decode cX6_letOff 11 = .ok (.ifCond .le 5, 3) := by decide +kernel
theorem dX6_letOff_14 : decode cX6_letOff 14 = .ok (.iconst 0, 1) := by decide +kernel
theorem dX6_letOff_15 : decode cX6_letOff 15 = .ok (.ireturn, 1) := by decide +kernel
theorem dX6_letOff_16 : decode cX6_letOff 16 = .ok (.fload_n 1, 1) := by decide +kernel
theorem dX6_letOff_17 : decode cX6_letOff 17 = .ok (.ldc 151, 2) := by decide +kernel
theorem dX6_letOff_19 : decode cX6_letOff 19 = .ok (.fmul, 1) := by decide +kernel
theorem dX6_letOff_20 : decode cX6_letOff 20 = .ok (.f2l, 1) := by decide +kernel
theorem dX6_letOff_21 : decode cX6_letOff 21 = .ok (.lstore_n 2, 1) := by decide +kernel
theorem dX6_letOff_22 : decode cX6_letOff 22 = .ok (.lload_n 2, 1) := by decide +kernel
theorem dX6_letOff_23 : decode cX6_letOff 23 = .ok (.ldc2_w 187, 3) := by decide +kernel
theorem dX6_letOff_26 : decode cX6_letOff 26 = .ok (.lrem, 1) := by decide +kernel
theorem dX6_letOff_27 : decode cX6_letOff 27 = .ok (.l2i, 1) := by decide +kernel
theorem dX6_letOff_28 : decode cX6_letOff 28 = .ok (.ireturn, 1) := by decide +kernel
set_option maxRecDepth 20000 in
theorem ggX6_state_J9_floorDiv_f86c9 : GoodIn wsX6_state wsJ9_floorDiv_f86c9 := goodIn_r _ [12] (by decide +kernel) (by decide +kernel)
set_option maxRecDepth 20000 in
theorem gX6_state_J9_floorDiv_f86c9 : GoodIn wsX6_state (va_wsS RX6 194 yJ9_floorDiv_f86c9 wsJ9_floorDiv_f86c9) := goodIn_app (goodIn_of _ (by decide +kernel)) ggX6_state_J9_floorDiv_f86c9
theorem dX6_state_0 : decode cX6_state 0 = .ok (.iload_n 1, 1) := by decide +kernel
theorem dX6_state_1 : decode cX6_state 1 = .ok (.tableswitch 111 0 7 #[47, 55, 60, 65, 70, 75, 83, 98], 47) := by decide +kernel
theorem dX6_state_48 : decode cX6_state 48 = .ok (.aload_n 0, 1) := by decide +kernel
theorem dX6_state_49 : decode cX6_state 49 = .ok (.getfield 19, 3) := by decide +kernel
theorem dX6_state_52 : decode cX6_state 52 = .ok (.getfield 100, 3) := by decide +kernel
theorem dX6_state_55 : decode cX6_state 55 = .ok (.ireturn, 1) := by decide +kernel
theorem dX6_state_56 : decode cX6_state 56 = .ok (.aload_n 0, 1) := by decide +kernel
theorem dX6_state_57 : decode cX6_state 57 = .ok (.getfield 48, 3) := by decide +kernel
theorem dX6_state_60 : decode cX6_state 60 = .ok (.ireturn, 1) := by decide +kernel
theorem dX6_state_61 : decode cX6_state 61 = .ok (.aload_n 0, 1) := by decide +kernel
theorem dX6_state_62 : decode cX6_state 62 = .ok (.getfield 52, 3) := by decide +kernel
theorem dX6_state_65 : decode cX6_state 65 = .ok (.ireturn, 1) := by decide +kernel
theorem dX6_state_66 : decode cX6_state 66 = .ok (.aload_n 0, 1) := by decide +kernel
theorem dX6_state_67 : decode cX6_state 67 = .ok (.getfield 55, 3) := by decide +kernel
theorem dX6_state_70 : decode cX6_state 70 = .ok (.ireturn, 1) := by decide +kernel
theorem dX6_state_71 : decode cX6_state 71 = .ok (.aload_n 0, 1) := by decide +kernel
theorem dX6_state_72 : decode cX6_state 72 = .ok (.getfield 58, 3) := by decide +kernel
theorem dX6_state_75 : decode cX6_state 75 = .ok (.ireturn, 1) := by decide +kernel
theorem dX6_state_76 : decode cX6_state 76 = .ok (.aload_n 0, 1) := by decide +kernel
theorem dX6_state_77 : decode cX6_state 77 = .ok (.getfield 19, 3) := by decide +kernel
theorem dX6_state_80 : decode cX6_state 80 = .ok (.getfield 189, 3) := by decide +kernel
theorem dX6_state_83 : decode cX6_state 83 = .ok (.ireturn, 1) := by decide +kernel
theorem dX6_state_84 : decode cX6_state 84 = .ok (.aload_n 0, 1) := by decide +kernel
theorem dX6_state_85 : decode cX6_state 85 = .ok (.getfield 26, 3) := by decide +kernel
theorem dX6_state_88 : decode cX6_state 88 = .ok (.getfield 176, 3) := by decide +kernel
theorem dX6_state_91 : decode cX6_state 91 = .ok (.ldc2_w 192, 3) := by decide +kernel
theorem dX6_state_94 : decode cX6_state 94 = .ok (.invokestatic 194, 3) := by decide +kernel
theorem dX6_state_97 : decode cX6_state 97 = .ok (.l2i, 1) := by decide +kernel
theorem dX6_state_98 : decode cX6_state 98 = .ok (.ireturn, 1) := by decide +kernel
theorem dX6_state_99 : decode cX6_state 99 = .ok (.aload_n 0, 1) := by decide +kernel
theorem dX6_state_100 : decode cX6_state 100 = .ok (.getfield 65, 3) := by decide +kernel
theorem dX6_state_103 : decode cX6_state 103 = .ok (.ifCond .eq 7, 3) := by decide +kernel
theorem dX6_state_106 : decode cX6_state 106 = .ok (.iconst 1, 1) := by decide +kernel
theorem dX6_state_107 : decode cX6_state 107 = .ok (.goto 4, 3) := by decide +kernel
theorem dX6_state_110 : decode cX6_state 110 = .ok (.iconst 0, 1) := by decide +kernel
theorem dX6_state_111 : decode cX6_state 111 = .ok (.ireturn, 1) := by decide +kernel
theorem dX6_state_112 : decode cX6_state 112 = .ok (.iconst (-1), 1) := by decide +kernel
theorem dX6_state_113 : decode cX6_state 113 = .ok (.ireturn, 1) := by decide +kernel
theorem dX6_count_0 : decode cX6_count 0 = .ok (.iload_n 1, 1) := by decide +kernel
theorem dX6_count_1 : decode cX6_count 1 = .ok (.tableswitch 48 0 2 #[27, 32, 40], 27) := by decide +kernel
theorem dX6_count_28 : decode cX6_count 28 = .ok (.aload_n 0, 1) := by decide +kernel
theorem dX6_count_29 : decode cX6_count 29 = .ok (.getfield 44, 3) := by decide +kernel
theorem dX6_count_32 : decode cX6_count 32 = .ok (.lreturn, 1) := by decide +kernel
theorem dX6_count_33 : decode cX6_count 33 = .ok (.aload_n 0, 1) := by decide +kernel
theorem dX6_count_34 : decode cX6_count 34 = .ok (.getfield 26, 3) := by decide +kernel
theorem dX6_count_37 : decode cX6_count 37 = .ok (.getfield 200, 3) := by decide +kernel
theorem dX6_count_40 : decode cX6_count 40 = .ok (.lreturn, 1) := by decide +kernel
theorem dX6_count_41 : decode cX6_count 41 = .ok (.aload_n 0, 1) := by decide +kernel
theorem dX6_count_42 : decode cX6_count 42 = .ok (.getfield 19, 3) := by decide +kernel
theorem dX6_count_45 : decode cX6_count 45 = .ok (.getfield 203, 3) := by decide +kernel
theorem dX6_count_48 : decode cX6_count 48 = .ok (.lreturn, 1) := by decide +kernel
theorem dX6_count_49 : decode cX6_count 49 = .ok (.ldc2_w 206, 3) := by decide +kernel
theorem dX6_count_52 : decode cX6_count 52 = .ok (.lreturn, 1) := by decide +kernel
set_option maxRecDepth 20000 in
theorem ggX6_cloth_X0_tell : GoodIn wsX6_cloth wsX0_tell := goodIn_r _ [6, 7, 8, 9, 10, 11, 12, 13, 5, 14, 15, 16, 17, 18, 19, 32, 33, 34, 35, 36, 37, 38] (by decide +kernel) (by decide +kernel)
set_option maxRecDepth 20000 in
theorem gX6_cloth_X0_tell : GoodIn wsX6_cloth (wsV RX6 208 RX0 yX0_tell wsX0_tell) := goodIn_app (goodIn_of _ (by decide +kernel)) ggX6_cloth_X0_tell
theorem dX6_cloth_0 : decode cX6_cloth 0 = .ok (.aload_n 0, 1) := by decide +kernel
theorem dX6_cloth_1 : decode cX6_cloth 1 = .ok (.getfield 26, 3) := by decide +kernel
theorem dX6_cloth_4 : decode cX6_cloth 4 = .ok (.iload_n 1, 1) := by decide +kernel
theorem dX6_cloth_5 : decode cX6_cloth 5 = .ok (.iload_n 2, 1) := by decide +kernel
theorem dX6_cloth_6 : decode cX6_cloth 6 = .ok (.invokevirtual 208, 3) := by decide +kernel
theorem dX6_cloth_9 : decode cX6_cloth 9 = .ok (.ireturn, 1) := by decide +kernel
theorem dX6_degrees_0 : decode cX6_degrees 0 = .ok (.iload_n 0, 1) := by decide +kernel
theorem dX6_degrees_1 : decode cX6_degrees 1 = .ok (.i2d, 1) := by decide +kernel
theorem dX6_degrees_2 : decode cX6_degrees 2 = .ok (.ldc2_w 211, 3) := by decide +kernel
theorem dX6_degrees_5 : decode cX6_degrees 5 = .ok (.ddiv, 1) := by decide +kernel
theorem dX6_degrees_6 : decode cX6_degrees 6 = .ok (.dreturn, 1) := by decide +kernel
theorem dX6_sixteenths_0 : decode cX6_sixteenths 0 = .ok (.dload_n 0, 1) := by decide +kernel
theorem dX6_sixteenths_1 : decode cX6_sixteenths 1 = .ok (.ldc2_w 179, 3) := by decide +kernel
theorem dX6_sixteenths_4 : decode cX6_sixteenths 4 = .ok (.dmul, 1) := by decide +kernel
theorem dX6_sixteenths_5 : decode cX6_sixteenths 5 = .ok (.d2i, 1) := by decide +kernel
theorem dX6_sixteenths_6 : decode cX6_sixteenths 6 = .ok (.istore_n 2, 1) := by decide +kernel
theorem dX6_sixteenths_7 : decode cX6_sixteenths 7 = .ok (.iload_n 2, 1) := by decide +kernel
theorem dX6_sixteenths_8 : decode cX6_sixteenths 8 = .ok (.iconst 2, 1) := by decide +kernel
theorem dX6_sixteenths_9 : decode cX6_sixteenths 9 = .ok (.imul, 1) := by decide +kernel
theorem dX6_sixteenths_10 : decode cX6_sixteenths 10 = .ok (.ireturn, 1) := by decide +kernel
set_option maxRecDepth 20000 in
theorem ggX6_goForwards_X4_stands : GoodIn wsX6_goForwards wsX4_stands := goodIn_r _ [6, 7, 138, 139, 140, 141, 142, 143] (by decide +kernel) (by decide +kernel)
set_option maxRecDepth 20000 in
theorem gX6_goForwards_X4_stands : GoodIn wsX6_goForwards (wsV RX6 78 RX4 yX4_stands wsX4_stands) := goodIn_app (goodIn_of _ (by decide +kernel)) ggX6_goForwards_X4_stands
set_option maxRecDepth 20000 in
theorem ggX6_goForwards_X4_markAbove : GoodIn wsX6_goForwards wsX4_markAbove := goodIn_r _ [11, 12, 138, 139, 140, 141, 142, 143] (by decide +kernel) (by decide +kernel)
set_option maxRecDepth 20000 in
theorem gX6_goForwards_X4_markAbove : GoodIn wsX6_goForwards (wsV RX6 213 RX4 yX4_markAbove wsX4_markAbove) := goodIn_app (goodIn_of _ (by decide +kernel)) ggX6_goForwards_X4_markAbove
set_option maxRecDepth 20000 in
theorem ggX6_goForwards_X4_goTowards : GoodIn wsX6_goForwards wsX4_goTowards := goodIn_r _ [16, 12, 17, 18, 19, 20, 7, 21, 138, 139, 140, 141, 142, 143] (by decide +kernel) (by decide +kernel)
set_option maxRecDepth 20000 in
theorem gX6_goForwards_X4_goTowards : GoodIn wsX6_goForwards (wsV RX6 216 RX4 yX4_goTowards wsX4_goTowards) := goodIn_app (goodIn_of _ (by decide +kernel)) ggX6_goForwards_X4_goTowards
set_option maxRecDepth 20000 in
theorem ggX6_goForwards_X6_comeTo : GoodIn wsX6_goForwards wsX6_comeTo := goodIn_r _ [26, 27, 28, 29, 30, 31, 32, 33, 34, 35, 36, 37, 38, 39, 40, 41, 42, 43, 44, 45, 46, 47, 48, 49, 50, 51, 52, 53, 54, 55, 56, 57, 58, 59, 60, 61, 62, 63, 64, 65, 66, 25, 67, 68, 69, 1, 70, 71, 72, 5, 73, 7, 74, 21, 75, 76, 77, 78, 79, 80, 81, 82, 83, 84, 85, 86, 87, 88, 89, 90, 91, 92, 93, 94, 95, 96, 97, 98, 99, 100, 101, 102, 103, 104, 18, 19, 20, 105, 106, 107, 108, 109, 110, 111, 112, 113, 114, 115, 116, 117, 126, 127, 128, 129, 130, 131, 132, 133, 134, 135, 136, 137, 144, 145, 146, 147, 148, 149, 150, 151, 152, 153, 154, 138, 139, 140, 141, 142, 143, 155, 156, 157, 158, 159, 160, 161, 162, 163, 164] (by decide +kernel) (by decide +kernel)
set_option maxRecDepth 20000 in
theorem gX6_goForwards_X6_comeTo : GoodIn wsX6_goForwards (wsV RX6 219 RX6 yX6_comeTo wsX6_comeTo) := goodIn_app (goodIn_of _ (by decide +kernel)) ggX6_goForwards_X6_comeTo
set_option maxRecDepth 20000 in
theorem ggX6_goForwards_X4_standWhenSpent : GoodIn wsX6_goForwards wsX4_standWhenSpent := goodIn_r _ [121, 7, 21, 122, 123, 124, 5, 125, 138, 139, 140, 141, 142, 143] (by decide +kernel) (by decide +kernel)
set_option maxRecDepth 20000 in
theorem gX6_goForwards_X4_standWhenSpent : GoodIn wsX6_goForwards (wsV RX6 222 RX4 yX4_standWhenSpent wsX4_standWhenSpent) := goodIn_app (goodIn_of _ (by decide +kernel)) ggX6_goForwards_X4_standWhenSpent
theorem dX6_goForwards_0 : decode cX6_goForwards 0 = .ok (.iload_n 1, 1) := by decide +kernel
theorem dX6_goForwards_1 : decode cX6_goForwards 1 = .ok (.istore_n 2, 1) := by decide +kernel
theorem dX6_goForwards_2 : decode cX6_goForwards 2 = .ok (.iconst 0, 1) := by decide +kernel
theorem dX6_goForwards_3 : decode cX6_goForwards 3 = .ok (.istore_n 3, 1) := by decide +kernel
theorem dX6_goForwards_4 : decode cX6_goForwards 4 = .ok (.iload_n 3, 1) := by decide +kernel
theorem dX6_goForwards_5 : decode cX6_goForwards 5 = .ok (.bipush 64, 2) := by decide +kernel
theorem dX6_goForwards_7 : decode cX6_goForwards 7 = .ok (.if_icmp .ge 70, 3) := by decide +kernel
theorem dX6_goForwards_10 : decode cX6_goForwards 10 = .ok (.iload_n 2, 1) := by decide +kernel
theorem dX6_goForwards_11 : decode cX6_goForwards 11 = .ok (.ifCond .le 66, 3) := by decide +kernel
theorem dX6_goForwards_14 : decode cX6_goForwards 14 = .ok (.aload_n 0, 1) := by decide +kernel
theorem dX6_goForwards_15 : decode cX6_goForwards 15 = .ok (.getfield 19, 3) := by decide +kernel
theorem dX6_goForwards_18 : decode cX6_goForwards 18 = .ok (.invokevirtual 78, 3) := by decide +kernel
theorem dX6_goForwards_21 : decode cX6_goForwards 21 = .ok (.ifCond .ne 56, 3) := by decide +kernel
theorem dX6_goForwards_24 : decode cX6_goForwards 24 = .ok (.aload_n 0, 1) := by decide +kernel
theorem dX6_goForwards_25 : decode cX6_goForwards 25 = .ok (.getfield 19, 3) := by decide +kernel
theorem dX6_goForwards_28 : decode cX6_goForwards 28 = .ok (.invokevirtual 213, 3) := by decide +kernel
theorem dX6_goForwards_31 : decode cX6_goForwards 31 = .ok (.istore 4, 2) := by decide +kernel
theorem dX6_goForwards_33 : decode cX6_goForwards 33 = .ok (.iload_n 2, 1) := by decide +kernel
theorem dX6_goForwards_34 : decode cX6_goForwards 34 = .ok (.aload_n 0, 1) := by decide +kernel
theorem dX6_goForwards_35 : decode cX6_goForwards 35 = .ok (.getfield 19, 3) := by decide +kernel
theorem dX6_goForwards_38 : decode cX6_goForwards 38 = .ok (.iload 4, 2) := by decide +kernel
theorem dX6_goForwards_40 : decode cX6_goForwards 40 = .ok (.iload_n 2, 1) := by decide +kernel
theorem dX6_goForwards_41 : decode cX6_goForwards 41 = .ok (.invokevirtual 216, 3) := by decide +kernel
theorem dX6_goForwards_44 : decode cX6_goForwards 44 = .ok (.isub, 1) := by decide +kernel
theorem dX6_goForwards_45 : decode cX6_goForwards 45 = .ok (.istore_n 2, 1) := by decide +kernel
theorem dX6_goForwards_46 : decode cX6_goForwards 46 = .ok (.aload_n 0, 1) := by decide +kernel
theorem dX6_goForwards_47 : decode cX6_goForwards 47 = .ok (.getfield 19, 3) := by decide +kernel
theorem dX6_goForwards_50 : decode cX6_goForwards 50 = .ok (.getfield 142, 3) := by decide +kernel
theorem dX6_goForwards_53 : decode cX6_goForwards 53 = .ok (.iload 4, 2) := by decide +kernel
theorem dX6_goForwards_55 : decode cX6_goForwards 55 = .ok (.if_icmp .ne 9, 3) := by decide +kernel
theorem dX6_goForwards_58 : decode cX6_goForwards 58 = .ok (.aload_n 0, 1) := by decide +kernel
theorem dX6_goForwards_59 : decode cX6_goForwards 59 = .ok (.iload 4, 2) := by decide +kernel
theorem dX6_goForwards_61 : decode cX6_goForwards 61 = .ok (.invokevirtual 219, 3) := by decide +kernel
theorem dX6_goForwards_64 : decode cX6_goForwards 64 = .ok (.aload_n 0, 1) := by decide +kernel
theorem dX6_goForwards_65 : decode cX6_goForwards 65 = .ok (.getfield 19, 3) := by decide +kernel
theorem dX6_goForwards_68 : decode cX6_goForwards 68 = .ok (.invokevirtual 222, 3) := by decide +kernel
theorem dX6_goForwards_71 : decode cX6_goForwards 71 = .ok (.iinc 3 1, 3) := by decide +kernel
theorem dX6_goForwards_74 : decode cX6_goForwards 74 = .ok (.goto (-70), 3) := by decide +kernel
theorem dX6_goForwards_77 : decode cX6_goForwards 77 = .ok (.iload_n 1, 1) := by decide +kernel
theorem dX6_goForwards_78 : decode cX6_goForwards 78 = .ok (.iload_n 2, 1) := by decide +kernel
theorem dX6_goForwards_79 : decode cX6_goForwards 79 = .ok (.isub, 1) := by decide +kernel
theorem dX6_goForwards_80 : decode cX6_goForwards 80 = .ok (.ireturn, 1) := by decide +kernel
set_option maxRecDepth 20000 in
theorem ggX6_comeTo_X1_tell : GoodIn wsX6_comeTo wsX1_tell := goodIn_r _ [10, 11, 12, 13, 14, 15, 16, 17, 18, 19, 9, 20, 21, 22, 23, 24, 25, 26, 27, 28, 29, 30, 31, 32, 33, 34, 35, 36, 37, 112, 113, 114, 115, 116, 117, 118, 119, 120, 121, 122] (by decide +kernel) (by decide +kernel)
set_option maxRecDepth 20000 in
theorem gX6_comeTo_X1_tell : GoodIn wsX6_comeTo (wsV RX6 96 RX1 yX1_tell wsX1_tell) := goodIn_app (goodIn_of _ (by decide +kernel)) ggX6_comeTo_X1_tell
set_option maxRecDepth 20000 in
theorem ggX6_comeTo_X6_insert : GoodIn wsX6_comeTo wsX6_insert := goodIn_r _ [42, 43, 44, 45, 46, 47, 48, 49, 50, 51, 52, 53, 54, 100, 101, 102, 103, 104, 105, 106, 107, 108, 109, 110, 111, 123, 124, 125, 126, 127, 128] (by decide +kernel) (by decide +kernel)
set_option maxRecDepth 20000 in
theorem gX6_comeTo_X6_insert : GoodIn wsX6_comeTo (wsV RX6 225 RX6 yX6_insert wsX6_insert) := goodIn_app (goodIn_of _ (by decide +kernel)) ggX6_comeTo_X6_insert
set_option maxRecDepth 20000 in
theorem ggX6_comeTo_X3_write : GoodIn wsX6_comeTo wsX3_write := goodIn_r _ [59, 60, 61, 62, 63, 64, 65, 58, 66, 129, 130, 131] (by decide +kernel) (by decide +kernel)
set_option maxRecDepth 20000 in
theorem gX6_comeTo_X3_write : GoodIn wsX6_comeTo (wsV RX6 228 RX3 yX3_write wsX3_write) := goodIn_app (goodIn_of _ (by decide +kernel)) ggX6_comeTo_X3_write
set_option maxRecDepth 20000 in
theorem ggX6_comeTo_X6_endTurn : GoodIn wsX6_comeTo wsX6_endTurn := goodIn_r _ [70, 44, 71, 4, 3, 1, 2, 72, 5, 45, 6, 7, 8, 9, 10, 11, 12, 13, 14, 15, 16, 17, 18, 19, 20, 21, 22, 23, 24, 25, 26, 27, 28, 29, 30, 31, 32, 33, 34, 35, 36, 37, 73, 74, 75, 76, 77, 78, 79, 80, 81, 82, 83, 84, 85, 86, 87, 88, 89, 90, 91, 92, 93, 94, 95, 96, 97, 98, 99, 55, 56, 57, 58, 59, 60, 61, 62, 63, 64, 65, 66, 100, 101, 102, 103, 104, 105, 106, 107, 108, 109, 110, 111, 123, 124, 125, 126, 127, 128, 112, 113, 114, 115, 116, 117, 118, 119, 120, 121, 122, 132, 133, 134, 135, 136, 137, 138, 129, 130, 131] (by decide +kernel) (by decide +kernel)
set_option maxRecDepth 20000 in
theorem gX6_comeTo_X6_endTurn : GoodIn wsX6_comeTo (wsV RX6 232 RX6 yX6_endTurn wsX6_endTurn) := goodIn_app (goodIn_of _ (by decide +kernel)) ggX6_comeTo_X6_endTurn
theorem dX6_comeTo_0 : decode cX6_comeTo 0 = .ok (.iload_n 1, 1) := by decide +kernel
theorem dX6_comeTo_1 : decode cX6_comeTo 1 = .ok (.lookupswitch 94 #[(480, 35), (1440, 54), (4800, 61)], 35) := by decide +kernel
theorem dX6_comeTo_36 : decode cX6_comeTo 36 = .ok (.aload_n 0, 1) := by decide +kernel
theorem dX6_comeTo_37 : decode cX6_comeTo 37 = .ok (.aload_n 0, 1) := by decide +kernel
theorem dX6_comeTo_38 : decode cX6_comeTo 38 = .ok (.getfield 40, 3) := by decide +kernel
theorem dX6_comeTo_41 : decode cX6_comeTo 41 = .ok (.aload_n 0, 1) := by decide +kernel
theorem dX6_comeTo_42 : decode cX6_comeTo 42 = .ok (.getfield 44, 3) := by decide +kernel
theorem dX6_comeTo_45 : decode cX6_comeTo 45 = .ok (.iconst 1, 1) := by decide +kernel
theorem dX6_comeTo_46 : decode cX6_comeTo 46 = .ok (.invokevirtual 96, 3) := by decide +kernel
theorem dX6_comeTo_49 : decode cX6_comeTo 49 = .ok (.putfield 52, 3) := by decide +kernel
theorem dX6_comeTo_52 : decode cX6_comeTo 52 = .ok (.goto 47, 3) := by decide +kernel
theorem dX6_comeTo_55 : decode cX6_comeTo 55 = .ok (.aload_n 0, 1) := by decide +kernel
theorem dX6_comeTo_56 : decode cX6_comeTo 56 = .ok (.invokevirtual 225, 3) := by decide +kernel
theorem dX6_comeTo_59 : decode cX6_comeTo 59 = .ok (.goto 40, 3) := by decide +kernel
theorem dX6_comeTo_62 : decode cX6_comeTo 62 = .ok (.aload_n 0, 1) := by decide +kernel
theorem dX6_comeTo_63 : decode cX6_comeTo 63 = .ok (.aload_n 0, 1) := by decide +kernel
theorem dX6_comeTo_64 : decode cX6_comeTo 64 = .ok (.getfield 40, 3) := by decide +kernel
theorem dX6_comeTo_67 : decode cX6_comeTo 67 = .ok (.aload_n 0, 1) := by decide +kernel
theorem dX6_comeTo_68 : decode cX6_comeTo 68 = .ok (.getfield 44, 3) := by decide +kernel
theorem dX6_comeTo_71 : decode cX6_comeTo 71 = .ok (.iconst 0, 1) := by decide +kernel
theorem dX6_comeTo_72 : decode cX6_comeTo 72 = .ok (.invokevirtual 96, 3) := by decide +kernel
theorem dX6_comeTo_75 : decode cX6_comeTo 75 = .ok (.putfield 48, 3) := by decide +kernel
theorem dX6_comeTo_78 : decode cX6_comeTo 78 = .ok (.aload_n 0, 1) := by decide +kernel
theorem dX6_comeTo_79 : decode cX6_comeTo 79 = .ok (.getfield 33, 3) := by decide +kernel
theorem dX6_comeTo_82 : decode cX6_comeTo 82 = .ok (.sipush 300, 3) := by decide +kernel
theorem dX6_comeTo_85 : decode cX6_comeTo 85 = .ok (.aload_n 0, 1) := by decide +kernel
theorem dX6_comeTo_86 : decode cX6_comeTo 86 = .ok (.getfield 44, 3) := by decide +kernel
theorem dX6_comeTo_89 : decode cX6_comeTo 89 = .ok (.invokevirtual 228, 3) := by decide +kernel
theorem dX6_comeTo_92 : decode cX6_comeTo 92 = .ok (.goto 7, 3) := by decide +kernel
theorem dX6_comeTo_95 : decode cX6_comeTo 95 = .ok (.aload_n 0, 1) := by decide +kernel
theorem dX6_comeTo_96 : decode cX6_comeTo 96 = .ok (.invokevirtual 232, 3) := by decide +kernel
theorem dX6_comeTo_99 : decode cX6_comeTo 99 = .ok (.return_, 1) := by decide +kernel
set_option maxRecDepth 20000 in
theorem ggX6_insert_X4_orderBrake : GoodIn wsX6_insert wsX4_orderBrake := goodIn_r _ [8, 9, 10, 11, 12, 25, 26, 27, 28, 29, 30] (by decide +kernel) (by decide +kernel)
set_option maxRecDepth 20000 in
theorem gX6_insert_X4_orderBrake : GoodIn wsX6_insert (wsV RX6 103 RX4 yX4_orderBrake wsX4_orderBrake) := goodIn_app (goodIn_of _ (by decide +kernel)) ggX6_insert_X4_orderBrake
theorem dX6_insert_0 : decode cX6_insert 0 = .ok (.aload_n 0, 1) := by decide +kernel
theorem dX6_insert_1 : decode cX6_insert 1 = .ok (.getfield 61, 3) := by decide +kernel
theorem dX6_insert_4 : decode cX6_insert 4 = .ok (.ifCond .eq 19, 3) := by decide +kernel
theorem dX6_insert_7 : decode cX6_insert 7 = .ok (.aload_n 0, 1) := by decide +kernel
theorem dX6_insert_8 : decode cX6_insert 8 = .ok (.iconst 2, 1) := by decide +kernel
theorem dX6_insert_9 : decode cX6_insert 9 = .ok (.putfield 55, 3) := by decide +kernel
theorem dX6_insert_12 : decode cX6_insert 12 = .ok (.aload_n 0, 1) := by decide +kernel
theorem dX6_insert_13 : decode cX6_insert 13 = .ok (.getfield 19, 3) := by decide +kernel
theorem dX6_insert_16 : decode cX6_insert 16 = .ok (.invokevirtual 103, 3) := by decide +kernel
theorem dX6_insert_19 : decode cX6_insert 19 = .ok (.pop, 1) := by decide +kernel
theorem dX6_insert_20 : decode cX6_insert 20 = .ok (.goto 8, 3) := by decide +kernel
theorem dX6_insert_23 : decode cX6_insert 23 = .ok (.aload_n 0, 1) := by decide +kernel
theorem dX6_insert_24 : decode cX6_insert 24 = .ok (.iconst 1, 1) := by decide +kernel
theorem dX6_insert_25 : decode cX6_insert 25 = .ok (.putfield 55, 3) := by decide +kernel
theorem dX6_insert_28 : decode cX6_insert 28 = .ok (.aload_n 0, 1) := by decide +kernel
theorem dX6_insert_29 : decode cX6_insert 29 = .ok (.iconst 0, 1) := by decide +kernel
theorem dX6_insert_30 : decode cX6_insert 30 = .ok (.putfield 61, 3) := by decide +kernel
theorem dX6_insert_33 : decode cX6_insert 33 = .ok (.return_, 1) := by decide +kernel
set_option maxRecDepth 20000 in
theorem ggX6_endTurn_X1_tell : GoodIn wsX6_endTurn wsX1_tell := goodIn_r _ [14, 15, 16, 17, 18, 19, 20, 21, 22, 23, 13, 24, 25, 26, 27, 28, 29, 30, 31, 32, 33, 34, 35, 36, 37, 38, 39, 40, 41, 99, 100, 101, 102, 103, 104, 105, 106, 107, 108, 109] (by decide +kernel) (by decide +kernel)
set_option maxRecDepth 20000 in
theorem gX6_endTurn_X1_tell : GoodIn wsX6_endTurn (wsV RX6 96 RX1 yX1_tell wsX1_tell) := goodIn_app (goodIn_of _ (by decide +kernel)) ggX6_endTurn_X1_tell
set_option maxRecDepth 20000 in
theorem ggX6_endTurn_X0_beatUp : GoodIn wsX6_endTurn wsX0_beatUp := goodIn_r _ [46, 47, 48, 49, 50, 51, 52, 53, 54, 55, 56, 57, 58, 59, 60, 61, 62, 63, 45, 64, 110, 111, 112, 113, 114, 115, 116] (by decide +kernel) (by decide +kernel)
set_option maxRecDepth 20000 in
theorem gX6_endTurn_X0_beatUp : GoodIn wsX6_endTurn (wsV RX6 235 RX0 yX0_beatUp wsX0_beatUp) := goodIn_app (goodIn_of _ (by decide +kernel)) ggX6_endTurn_X0_beatUp
set_option maxRecDepth 20000 in
theorem ggX6_endTurn_X1_behind : GoodIn wsX6_endTurn wsX1_behind := goodIn_r _ [68, 21, 22, 23, 13, 24, 25, 99, 100, 101, 102, 103, 104, 105, 106, 107, 108, 109] (by decide +kernel) (by decide +kernel)
set_option maxRecDepth 20000 in
theorem gX6_endTurn_X1_behind : GoodIn wsX6_endTurn (wsV RX6 239 RX1 yX1_behind wsX1_behind) := goodIn_app (goodIn_of _ (by decide +kernel)) ggX6_endTurn_X1_behind
set_option maxRecDepth 20000 in
theorem ggX6_endTurn_X3_write : GoodIn wsX6_endTurn wsX3_write := goodIn_r _ [73, 74, 75, 76, 77, 78, 79, 72, 80, 117, 118, 119] (by decide +kernel) (by decide +kernel)
set_option maxRecDepth 20000 in
theorem gX6_endTurn_X3_write : GoodIn wsX6_endTurn (wsV RX6 228 RX3 yX3_write wsX3_write) := goodIn_app (goodIn_of _ (by decide +kernel)) ggX6_endTurn_X3_write
theorem dX6_endTurn_0 : decode cX6_endTurn 0 = .ok (.aload_n 0, 1) := by decide +kernel
theorem dX6_endTurn_1 : decode cX6_endTurn 1 = .ok (.getfield 55, 3) := by decide +kernel
theorem dX6_endTurn_4 : decode cX6_endTurn 4 = .ok (.iconst 1, 1) := by decide +kernel
theorem dX6_endTurn_5 : decode cX6_endTurn 5 = .ok (.if_icmp .ne 48, 3) := by decide +kernel
theorem dX6_endTurn_8 : decode cX6_endTurn 8 = .ok (.aload_n 0, 1) := by decide +kernel
theorem dX6_endTurn_9 : decode cX6_endTurn 9 = .ok (.getfield 26, 3) := by decide +kernel
theorem dX6_endTurn_12 : decode cX6_endTurn 12 = .ok (.aload_n 0, 1) := by decide +kernel
theorem dX6_endTurn_13 : decode cX6_endTurn 13 = .ok (.getfield 48, 3) := by decide +kernel
theorem dX6_endTurn_16 : decode cX6_endTurn 16 = .ok (.aload_n 0, 1) := by decide +kernel
theorem dX6_endTurn_17 : decode cX6_endTurn 17 = .ok (.getfield 52, 3) := by decide +kernel
theorem dX6_endTurn_20 : decode cX6_endTurn 20 = .ok (.aload_n 0, 1) := by decide +kernel
theorem dX6_endTurn_21 : decode cX6_endTurn 21 = .ok (.getfield 40, 3) := by decide +kernel
theorem dX6_endTurn_24 : decode cX6_endTurn 24 = .ok (.aload_n 0, 1) := by decide +kernel
theorem dX6_endTurn_25 : decode cX6_endTurn 25 = .ok (.getfield 44, 3) := by decide +kernel
theorem dX6_endTurn_28 : decode cX6_endTurn 28 = .ok (.iconst 2, 1) := by decide +kernel
theorem dX6_endTurn_29 : decode cX6_endTurn 29 = .ok (.invokevirtual 96, 3) := by decide +kernel
theorem dX6_endTurn_32 : decode cX6_endTurn 32 = .ok (.invokevirtual 235, 3) := by decide +kernel
theorem dX6_endTurn_35 : decode cX6_endTurn 35 = .ok (.aload_n 0, 1) := by decide +kernel
theorem dX6_endTurn_36 : decode cX6_endTurn 36 = .ok (.aload_n 0, 1) := by decide +kernel
theorem dX6_endTurn_37 : decode cX6_endTurn 37 = .ok (.getfield 40, 3) := by decide +kernel
theorem dX6_endTurn_40 : decode cX6_endTurn 40 = .ok (.aload_n 0, 1) := by decide +kernel
theorem dX6_endTurn_41 : decode cX6_endTurn 41 = .ok (.getfield 44, 3) := by decide +kernel
theorem dX6_endTurn_44 : decode cX6_endTurn 44 = .ok (.invokevirtual 239, 3) := by decide +kernel
theorem dX6_endTurn_47 : decode cX6_endTurn 47 = .ok (.putfield 44, 3) := by decide +kernel
theorem dX6_endTurn_50 : decode cX6_endTurn 50 = .ok (.goto 21, 3) := by decide +kernel
theorem dX6_endTurn_53 : decode cX6_endTurn 53 = .ok (.aload_n 0, 1) := by decide +kernel
theorem dX6_endTurn_54 : decode cX6_endTurn 54 = .ok (.getfield 55, 3) := by decide +kernel
theorem dX6_endTurn_57 : decode cX6_endTurn 57 = .ok (.iconst 2, 1) := by decide +kernel
theorem dX6_endTurn_58 : decode cX6_endTurn 58 = .ok (.if_icmp .ne 13, 3) := by decide +kernel
theorem dX6_endTurn_61 : decode cX6_endTurn 61 = .ok (.aload_n 0, 1) := by decide +kernel
theorem dX6_endTurn_62 : decode cX6_endTurn 62 = .ok (.dup, 1) := by decide +kernel
theorem dX6_endTurn_63 : decode cX6_endTurn 63 = .ok (.getfield 58, 3) := by decide +kernel
theorem dX6_endTurn_66 : decode cX6_endTurn 66 = .ok (.iconst 1, 1) := by decide +kernel
theorem dX6_endTurn_67 : decode cX6_endTurn 67 = .ok (.iadd, 1) := by decide +kernel
theorem dX6_endTurn_68 : decode cX6_endTurn 68 = .ok (.putfield 58, 3) := by decide +kernel
theorem dX6_endTurn_71 : decode cX6_endTurn 71 = .ok (.aload_n 0, 1) := by decide +kernel
theorem dX6_endTurn_72 : decode cX6_endTurn 72 = .ok (.iconst 0, 1) := by decide +kernel
theorem dX6_endTurn_73 : decode cX6_endTurn 73 = .ok (.putfield 55, 3) := by decide +kernel
theorem dX6_endTurn_76 : decode cX6_endTurn 76 = .ok (.aload_n 0, 1) := by decide +kernel
theorem dX6_endTurn_77 : decode cX6_endTurn 77 = .ok (.getfield 33, 3) := by decide +kernel
theorem dX6_endTurn_80 : decode cX6_endTurn 80 = .ok (.iconst 0, 1) := by decide +kernel
theorem dX6_endTurn_81 : decode cX6_endTurn 81 = .ok (.aload_n 0, 1) := by decide +kernel
theorem dX6_endTurn_82 : decode cX6_endTurn 82 = .ok (.getfield 44, 3) := by decide +kernel
theorem dX6_endTurn_85 : decode cX6_endTurn 85 = .ok (.invokevirtual 228, 3) := by decide +kernel
theorem dX6_endTurn_88 : decode cX6_endTurn 88 = .ok (.aload_n 0, 1) := by decide +kernel
theorem dX6_endTurn_89 : decode cX6_endTurn 89 = .ok (.getfield 19, 3) := by decide +kernel
theorem dX6_endTurn_92 : decode cX6_endTurn 92 = .ok (.iconst 0, 1) := by decide +kernel
theorem dX6_endTurn_93 : decode cX6_endTurn 93 = .ok (.putfield 142, 3) := by decide +kernel
theorem dX6_endTurn_96 : decode cX6_endTurn 96 = .ok (.aload_n 0, 1) := by decide +kernel
theorem dX6_endTurn_97 : decode cX6_endTurn 97 = .ok (.getfield 19, 3) := by decide +kernel
theorem dX6_endTurn_100 : decode cX6_endTurn 100 = .ok (.dup, 1) := by decide +kernel
theorem dX6_endTurn_101 : decode cX6_endTurn 101 = .ok (.getfield 203, 3) := by decide +kernel
theorem dX6_endTurn_104 : decode cX6_endTurn 104 = .ok (.lconst 1, 1) := by decide +kernel
theorem dX6_endTurn_105 : decode cX6_endTurn 105 = .ok (.ladd, 1) := by decide +kernel
theorem dX6_endTurn_106 : decode cX6_endTurn 106 = .ok (.putfield 203, 3) := by decide +kernel
theorem dX6_endTurn_109 : decode cX6_endTurn 109 = .ok (.return_, 1) := by decide +kernel
set_option maxRecDepth 20000 in
theorem ggX6_goBackwards_X4_markBelow : GoodIn wsX6_goBackwards wsX4_markBelow := goodIn_r _ [6] (by decide +kernel) (by decide +kernel)
set_option maxRecDepth 20000 in
theorem gX6_goBackwards_X4_markBelow : GoodIn wsX6_goBackwards (wsV RX6 243 RX4 yX4_markBelow wsX4_markBelow) := goodIn_app (goodIn_of _ (by decide +kernel)) ggX6_goBackwards_X4_markBelow
set_option maxRecDepth 20000 in
theorem ggX6_goBackwards_X6_undo : GoodIn wsX6_goBackwards wsX6_undo := goodIn_r _ [11, 12, 13, 14, 15, 10, 16, 17, 18, 19, 1, 20, 21, 22, 23, 24, 25, 26, 27, 28, 29, 30, 31, 32, 33, 34, 35, 36, 37, 38, 39, 40, 41, 42, 43, 44, 45, 46, 47, 48, 49, 50, 51, 52, 53, 54, 55, 56, 57, 58, 59, 60, 61, 62, 63, 64, 65, 66, 67, 68, 69, 70, 71, 72, 73, 74, 75, 76, 77, 78, 79, 80, 81, 82, 83, 84, 85, 86, 87, 88, 89, 90] (by decide +kernel) (by decide +kernel)
set_option maxRecDepth 20000 in
theorem gX6_goBackwards_X6_undo : GoodIn wsX6_goBackwards (wsV RX6 246 RX6 yX6_undo wsX6_undo) := goodIn_app (goodIn_of _ (by decide +kernel)) ggX6_goBackwards_X6_undo
theorem dX6_goBackwards_0 : decode cX6_goBackwards 0 = .ok (.iload_n 1, 1) := by decide +kernel
theorem dX6_goBackwards_1 : decode cX6_goBackwards 1 = .ok (.istore_n 2, 1) := by decide +kernel
theorem dX6_goBackwards_2 : decode cX6_goBackwards 2 = .ok (.aload_n 0, 1) := by decide +kernel
theorem dX6_goBackwards_3 : decode cX6_goBackwards 3 = .ok (.getfield 19, 3) := by decide +kernel
theorem dX6_goBackwards_6 : decode cX6_goBackwards 6 = .ok (.getfield 142, 3) := by decide +kernel
theorem dX6_goBackwards_9 : decode cX6_goBackwards 9 = .ok (.iconst 1, 1) := by decide +kernel
theorem dX6_goBackwards_10 : decode cX6_goBackwards 10 = .ok (.iadd, 1) := by decide +kernel
theorem dX6_goBackwards_11 : decode cX6_goBackwards 11 = .ok (.istore_n 3, 1) := by decide +kernel
theorem dX6_goBackwards_12 : decode cX6_goBackwards 12 = .ok (.iconst 0, 1) := by decide +kernel
theorem dX6_goBackwards_13 : decode cX6_goBackwards 13 = .ok (.istore 4, 2) := by decide +kernel
theorem dX6_goBackwards_15 : decode cX6_goBackwards 15 = .ok (.iload 4, 2) := by decide +kernel
theorem dX6_goBackwards_17 : decode cX6_goBackwards 17 = .ok (.bipush 64, 2) := by decide +kernel
theorem dX6_goBackwards_19 : decode cX6_goBackwards 19 = .ok (.if_icmp .ge 68, 3) := by decide +kernel
theorem dX6_goBackwards_22 : decode cX6_goBackwards 22 = .ok (.aload_n 0, 1) := by decide +kernel
theorem dX6_goBackwards_23 : decode cX6_goBackwards 23 = .ok (.getfield 19, 3) := by decide +kernel
theorem dX6_goBackwards_26 : decode cX6_goBackwards 26 = .ok (.iload_n 3, 1) := by decide +kernel
theorem dX6_goBackwards_27 : decode cX6_goBackwards 27 = .ok (.invokevirtual 243, 3) := by decide +kernel
theorem dX6_goBackwards_30 : decode cX6_goBackwards 30 = .ok (.istore 5, 2) := by decide +kernel
theorem dX6_goBackwards_32 : decode cX6_goBackwards 32 = .ok (.aload_n 0, 1) := by decide +kernel
theorem dX6_goBackwards_33 : decode cX6_goBackwards 33 = .ok (.getfield 19, 3) := by decide +kernel
theorem dX6_goBackwards_36 : decode cX6_goBackwards 36 = .ok (.getfield 142, 3) := by decide +kernel
theorem dX6_goBackwards_39 : decode cX6_goBackwards 39 = .ok (.iload 5, 2) := by decide +kernel
theorem dX6_goBackwards_41 : decode cX6_goBackwards 41 = .ok (.isub, 1) := by decide +kernel
theorem dX6_goBackwards_42 : decode cX6_goBackwards 42 = .ok (.istore 6, 2) := by decide +kernel
theorem dX6_goBackwards_44 : decode cX6_goBackwards 44 = .ok (.iload_n 2, 1) := by decide +kernel
theorem dX6_goBackwards_45 : decode cX6_goBackwards 45 = .ok (.iload 6, 2) := by decide +kernel
theorem dX6_goBackwards_47 : decode cX6_goBackwards 47 = .ok (.if_icmp .gt 6, 3) := by decide +kernel
theorem dX6_goBackwards_50 : decode cX6_goBackwards 50 = .ok (.goto 37, 3) := by decide +kernel
theorem dX6_goBackwards_53 : decode cX6_goBackwards 53 = .ok (.iload_n 2, 1) := by decide +kernel
theorem dX6_goBackwards_54 : decode cX6_goBackwards 54 = .ok (.iload 6, 2) := by decide +kernel
theorem dX6_goBackwards_56 : decode cX6_goBackwards 56 = .ok (.isub, 1) := by decide +kernel
theorem dX6_goBackwards_57 : decode cX6_goBackwards 57 = .ok (.istore_n 2, 1) := by decide +kernel
theorem dX6_goBackwards_58 : decode cX6_goBackwards 58 = .ok (.aload_n 0, 1) := by decide +kernel
theorem dX6_goBackwards_59 : decode cX6_goBackwards 59 = .ok (.getfield 19, 3) := by decide +kernel
theorem dX6_goBackwards_62 : decode cX6_goBackwards 62 = .ok (.iload 5, 2) := by decide +kernel
theorem dX6_goBackwards_64 : decode cX6_goBackwards 64 = .ok (.putfield 142, 3) := by decide +kernel
theorem dX6_goBackwards_67 : decode cX6_goBackwards 67 = .ok (.aload_n 0, 1) := by decide +kernel
theorem dX6_goBackwards_68 : decode cX6_goBackwards 68 = .ok (.iload 5, 2) := by decide +kernel
theorem dX6_goBackwards_70 : decode cX6_goBackwards 70 = .ok (.invokevirtual 246, 3) := by decide +kernel
theorem dX6_goBackwards_73 : decode cX6_goBackwards 73 = .ok (.aload_n 0, 1) := by decide +kernel
theorem dX6_goBackwards_74 : decode cX6_goBackwards 74 = .ok (.getfield 19, 3) := by decide +kernel
theorem dX6_goBackwards_77 : decode cX6_goBackwards 77 = .ok (.getfield 142, 3) := by decide +kernel
theorem dX6_goBackwards_80 : decode cX6_goBackwards 80 = .ok (.istore_n 3, 1) := by decide +kernel
theorem dX6_goBackwards_81 : decode cX6_goBackwards 81 = .ok (.iinc 4 1, 3) := by decide +kernel
theorem dX6_goBackwards_84 : decode cX6_goBackwards 84 = .ok (.goto (-69), 3) := by decide +kernel
theorem dX6_goBackwards_87 : decode cX6_goBackwards 87 = .ok (.aload_n 0, 1) := by decide +kernel
theorem dX6_goBackwards_88 : decode cX6_goBackwards 88 = .ok (.getfield 19, 3) := by decide +kernel
theorem dX6_goBackwards_91 : decode cX6_goBackwards 91 = .ok (.dup, 1) := by decide +kernel
theorem dX6_goBackwards_92 : decode cX6_goBackwards 92 = .ok (.getfield 142, 3) := by decide +kernel
theorem dX6_goBackwards_95 : decode cX6_goBackwards 95 = .ok (.iload_n 2, 1) := by decide +kernel
theorem dX6_goBackwards_96 : decode cX6_goBackwards 96 = .ok (.isub, 1) := by decide +kernel
theorem dX6_goBackwards_97 : decode cX6_goBackwards 97 = .ok (.putfield 142, 3) := by decide +kernel
theorem dX6_goBackwards_100 : decode cX6_goBackwards 100 = .ok (.return_, 1) := by decide +kernel
set_option maxRecDepth 20000 in
theorem ggX6_undo_X6_reopenTurn : GoodIn wsX6_undo wsX6_reopenTurn := goodIn_r _ [6, 1, 7, 8, 9, 10, 11, 12, 13, 14, 15, 16, 17, 18, 19, 20, 21, 22, 23, 24, 25, 26, 27, 28, 29, 30, 31, 32, 33, 34, 35, 36, 37, 38, 39, 40, 41, 42, 43, 44, 45, 46, 47, 48, 49, 50, 51, 52, 53, 54, 55, 56, 57, 58, 59, 60, 61, 62, 63, 64, 65, 66, 67, 68, 69, 70, 71, 72, 73, 74, 75, 76, 77, 78, 79, 80, 81] (by decide +kernel) (by decide +kernel)
set_option maxRecDepth 20000 in
theorem gX6_undo_X6_reopenTurn : GoodIn wsX6_undo (wsV RX6 249 RX6 yX6_reopenTurn wsX6_reopenTurn) := goodIn_app (goodIn_of _ (by decide +kernel)) ggX6_undo_X6_reopenTurn
theorem dX6_undo_0 : decode cX6_undo 0 = .ok (.iload_n 1, 1) := by decide +kernel
theorem dX6_undo_1 : decode cX6_undo 1 = .ok (.sipush 1440, 3) := by decide +kernel
theorem dX6_undo_4 : decode cX6_undo 4 = .ok (.if_icmp .ne 11, 3) := by decide +kernel
theorem dX6_undo_7 : decode cX6_undo 7 = .ok (.aload_n 0, 1) := by decide +kernel
theorem dX6_undo_8 : decode cX6_undo 8 = .ok (.iconst 0, 1) := by decide +kernel
theorem dX6_undo_9 : decode cX6_undo 9 = .ok (.putfield 55, 3) := by decide +kernel
theorem dX6_undo_12 : decode cX6_undo 12 = .ok (.goto 11, 3) := by decide +kernel
theorem dX6_undo_15 : decode cX6_undo 15 = .ok (.iload_n 1, 1) := by decide +kernel
theorem dX6_undo_16 : decode cX6_undo 16 = .ok (.ifCond .ne 7, 3) := by decide +kernel
theorem dX6_undo_19 : decode cX6_undo 19 = .ok (.aload_n 0, 1) := by decide +kernel
theorem dX6_undo_20 : decode cX6_undo 20 = .ok (.invokevirtual 249, 3) := by decide +kernel
theorem dX6_undo_23 : decode cX6_undo 23 = .ok (.return_, 1) := by decide +kernel
set_option maxRecDepth 20000 in
theorem ggX6_reopenTurn_X0_takeOff : GoodIn wsX6_reopenTurn wsX0_takeOff := goodIn_r _ [10, 11, 12, 13, 14, 15, 16, 17, 18, 9, 19, 20, 21, 22, 23, 24, 25, 26, 59, 60, 61, 62, 63, 64, 65] (by decide +kernel) (by decide +kernel)
set_option maxRecDepth 20000 in
theorem gX6_reopenTurn_X0_takeOff : GoodIn wsX6_reopenTurn (wsV RX6 252 RX0 yX0_takeOff wsX0_takeOff) := goodIn_app (goodIn_of _ (by decide +kernel)) ggX6_reopenTurn_X0_takeOff
set_option maxRecDepth 20000 in
theorem ggX6_reopenTurn_X1_before : GoodIn wsX6_reopenTurn wsX1_before := goodIn_r _ [31, 32, 33, 34, 35, 36, 37, 38, 39, 30, 40, 66, 67, 68, 69, 70, 71, 72, 73, 74, 75, 76] (by decide +kernel) (by decide +kernel)
set_option maxRecDepth 20000 in
theorem gX6_reopenTurn_X1_before : GoodIn wsX6_reopenTurn (wsV RX6 255 RX1 yX1_before wsX1_before) := goodIn_app (goodIn_of _ (by decide +kernel)) ggX6_reopenTurn_X1_before
theorem dX6_reopenTurn_0 : decode cX6_reopenTurn 0 = .ok (.aload_n 0, 1) := by decide +kernel
theorem dX6_reopenTurn_1 : decode cX6_reopenTurn 1 = .ok (.iconst 0, 1) := by decide +kernel
theorem dX6_reopenTurn_2 : decode cX6_reopenTurn 2 = .ok (.putfield 55, 3) := by decide +kernel
theorem dX6_reopenTurn_5 : decode cX6_reopenTurn 5 = .ok (.aload_n 0, 1) := by decide +kernel
theorem dX6_reopenTurn_6 : decode cX6_reopenTurn 6 = .ok (.getfield 26, 3) := by decide +kernel
theorem dX6_reopenTurn_9 : decode cX6_reopenTurn 9 = .ok (.invokevirtual 252, 3) := by decide +kernel
theorem dX6_reopenTurn_12 : decode cX6_reopenTurn 12 = .ok (.ifCond .eq 23, 3) := by decide +kernel
theorem dX6_reopenTurn_15 : decode cX6_reopenTurn 15 = .ok (.aload_n 0, 1) := by decide +kernel
theorem dX6_reopenTurn_16 : decode cX6_reopenTurn 16 = .ok (.iconst 1, 1) := by decide +kernel
theorem dX6_reopenTurn_17 : decode cX6_reopenTurn 17 = .ok (.putfield 55, 3) := by decide +kernel
theorem dX6_reopenTurn_20 : decode cX6_reopenTurn 20 = .ok (.aload_n 0, 1) := by decide +kernel
theorem dX6_reopenTurn_21 : decode cX6_reopenTurn 21 = .ok (.aload_n 0, 1) := by decide +kernel
theorem dX6_reopenTurn_22 : decode cX6_reopenTurn 22 = .ok (.getfield 40, 3) := by decide +kernel
theorem dX6_reopenTurn_25 : decode cX6_reopenTurn 25 = .ok (.aload_n 0, 1) := by decide +kernel
theorem dX6_reopenTurn_26 : decode cX6_reopenTurn 26 = .ok (.getfield 44, 3) := by decide +kernel
theorem dX6_reopenTurn_29 : decode cX6_reopenTurn 29 = .ok (.invokevirtual 255, 3) := by decide +kernel
theorem dX6_reopenTurn_32 : decode cX6_reopenTurn 32 = .ok (.putfield 44, 3) := by decide +kernel
theorem dX6_reopenTurn_35 : decode cX6_reopenTurn 35 = .ok (.aload_n 0, 1) := by decide +kernel
theorem dX6_reopenTurn_36 : decode cX6_reopenTurn 36 = .ok (.getfield 19, 3) := by decide +kernel
theorem dX6_reopenTurn_39 : decode cX6_reopenTurn 39 = .ok (.sipush 5760, 3) := by decide +kernel
theorem dX6_reopenTurn_42 : decode cX6_reopenTurn 42 = .ok (.putfield 142, 3) := by decide +kernel
theorem dX6_reopenTurn_45 : decode cX6_reopenTurn 45 = .ok (.aload_n 0, 1) := by decide +kernel
theorem dX6_reopenTurn_46 : decode cX6_reopenTurn 46 = .ok (.getfield 19, 3) := by decide +kernel
theorem dX6_reopenTurn_49 : decode cX6_reopenTurn 49 = .ok (.dup, 1) := by decide +kernel
theorem dX6_reopenTurn_50 : decode cX6_reopenTurn 50 = .ok (.getfield 203, 3) := by decide +kernel
theorem dX6_reopenTurn_53 : decode cX6_reopenTurn 53 = .ok (.lconst 1, 1) := by decide +kernel
theorem dX6_reopenTurn_54 : decode cX6_reopenTurn 54 = .ok (.lsub, 1) := by decide +kernel
theorem dX6_reopenTurn_55 : decode cX6_reopenTurn 55 = .ok (.putfield 203, 3) := by decide +kernel
theorem dX6_reopenTurn_58 : decode cX6_reopenTurn 58 = .ok (.return_, 1) := by decide +kernel
set_option maxRecDepth 20000 in
theorem ggX6_recall_X3_newest : GoodIn wsX6_recall wsX3_newest := goodIn_r _ [8, 9, 10, 11, 12, 13, 7, 14, 52, 53, 54] (by decide +kernel) (by decide +kernel)
set_option maxRecDepth 20000 in
theorem gX6_recall_X3_newest : GoodIn wsX6_recall (wsV RX6 258 RX3 yX3_newest wsX3_newest) := goodIn_app (goodIn_of _ (by decide +kernel)) ggX6_recall_X3_newest
set_option maxRecDepth 20000 in
theorem ggX6_recall_X3_placeOf : GoodIn wsX6_recall wsX3_placeOf := goodIn_r _ [18, 19, 52, 53, 54] (by decide +kernel) (by decide +kernel)
set_option maxRecDepth 20000 in
theorem gX6_recall_X3_placeOf : GoodIn wsX6_recall (wsV RX6 261 RX3 yX3_placeOf wsX3_placeOf) := goodIn_app (goodIn_of _ (by decide +kernel)) ggX6_recall_X3_placeOf
set_option maxRecDepth 20000 in
theorem ggX6_recall_X3_markOf : GoodIn wsX6_recall wsX3_markOf := goodIn_r _ [23, 9, 52, 53, 54] (by decide +kernel) (by decide +kernel)
set_option maxRecDepth 20000 in
theorem gX6_recall_X3_markOf : GoodIn wsX6_recall (wsV RX6 265 RX3 yX3_markOf wsX3_markOf) := goodIn_app (goodIn_of _ (by decide +kernel)) ggX6_recall_X3_markOf
set_option maxRecDepth 20000 in
theorem ggX6_recall_X1_behind : GoodIn wsX6_recall wsX1_behind := goodIn_r _ [28, 29, 30, 31, 27, 32, 33, 55, 56, 57, 58, 59, 60, 61, 62, 63, 64, 65] (by decide +kernel) (by decide +kernel)
set_option maxRecDepth 20000 in
theorem gX6_recall_X1_behind : GoodIn wsX6_recall (wsV RX6 239 RX1 yX1_behind wsX1_behind) := goodIn_app (goodIn_of _ (by decide +kernel)) ggX6_recall_X1_behind
theorem dX6_recall_0 : decode cX6_recall 0 = .ok (.aload_n 0, 1) := by decide +kernel
theorem dX6_recall_1 : decode cX6_recall 1 = .ok (.getfield 33, 3) := by decide +kernel
theorem dX6_recall_4 : decode cX6_recall 4 = .ok (.invokevirtual 258, 3) := by decide +kernel
theorem dX6_recall_7 : decode cX6_recall 7 = .ok (.istore_n 1, 1) := by decide +kernel
theorem dX6_recall_8 : decode cX6_recall 8 = .ok (.iload_n 1, 1) := by decide +kernel
theorem dX6_recall_9 : decode cX6_recall 9 = .ok (.iconst (-1), 1) := by decide +kernel
theorem dX6_recall_10 : decode cX6_recall 10 = .ok (.if_icmp .ne 5, 3) := by decide +kernel
theorem dX6_recall_13 : decode cX6_recall 13 = .ok (.lconst 0, 1) := by decide +kernel
theorem dX6_recall_14 : decode cX6_recall 14 = .ok (.lreturn, 1) := by decide +kernel
theorem dX6_recall_15 : decode cX6_recall 15 = .ok (.aload_n 0, 1) := by decide +kernel
theorem dX6_recall_16 : decode cX6_recall 16 = .ok (.getfield 33, 3) := by decide +kernel
theorem dX6_recall_19 : decode cX6_recall 19 = .ok (.iload_n 1, 1) := by decide +kernel
theorem dX6_recall_20 : decode cX6_recall 20 = .ok (.invokevirtual 261, 3) := by decide +kernel
theorem dX6_recall_23 : decode cX6_recall 23 = .ok (.lstore_n 2, 1) := by decide +kernel
theorem dX6_recall_24 : decode cX6_recall 24 = .ok (.aload_n 0, 1) := by decide +kernel
theorem dX6_recall_25 : decode cX6_recall 25 = .ok (.getfield 33, 3) := by decide +kernel
theorem dX6_recall_28 : decode cX6_recall 28 = .ok (.iload_n 1, 1) := by decide +kernel
theorem dX6_recall_29 : decode cX6_recall 29 = .ok (.invokevirtual 265, 3) := by decide +kernel
theorem dX6_recall_32 : decode cX6_recall 32 = .ok (.sipush 300, 3) := by decide +kernel
theorem dX6_recall_35 : decode cX6_recall 35 = .ok (.if_icmp .ne 20, 3) := by decide +kernel
theorem dX6_recall_38 : decode cX6_recall 38 = .ok (.aload_n 0, 1) := by decide +kernel
theorem dX6_recall_39 : decode cX6_recall 39 = .ok (.getfield 19, 3) := by decide +kernel
theorem dX6_recall_42 : decode cX6_recall 42 = .ok (.getfield 142, 3) := by decide +kernel
theorem dX6_recall_45 : decode cX6_recall 45 = .ok (.sipush 4800, 3) := by decide +kernel
theorem dX6_recall_48 : decode cX6_recall 48 = .ok (.if_icmp .ge 7, 3) := by decide +kernel
theorem dX6_recall_51 : decode cX6_recall 51 = .ok (.iconst 1, 1) := by decide +kernel
theorem dX6_recall_52 : decode cX6_recall 52 = .ok (.goto 4, 3) := by decide +kernel
theorem dX6_recall_55 : decode cX6_recall 55 = .ok (.iconst 0, 1) := by decide +kernel
theorem dX6_recall_56 : decode cX6_recall 56 = .ok (.istore 4, 2) := by decide +kernel
theorem dX6_recall_58 : decode cX6_recall 58 = .ok (.iload 4, 2) := by decide +kernel
theorem dX6_recall_60 : decode cX6_recall 60 = .ok (.ifCond .eq 14, 3) := by decide +kernel
theorem dX6_recall_63 : decode cX6_recall 63 = .ok (.aload_n 0, 1) := by decide +kernel
theorem dX6_recall_64 : decode cX6_recall 64 = .ok (.getfield 40, 3) := by decide +kernel
theorem dX6_recall_67 : decode cX6_recall 67 = .ok (.lload_n 2, 1) := by decide +kernel
theorem dX6_recall_68 : decode cX6_recall 68 = .ok (.invokevirtual 239, 3) := by decide +kernel
theorem dX6_recall_71 : decode cX6_recall 71 = .ok (.goto 4, 3) := by decide +kernel
theorem dX6_recall_74 : decode cX6_recall 74 = .ok (.lload_n 2, 1) := by decide +kernel
theorem dX6_recall_75 : decode cX6_recall 75 = .ok (.lreturn, 1) := by decide +kernel
end
section
theorem dX7_init_0 : decode cX7_init 0 = .ok (.aload_n 0, 1) := by decide +kernel
theorem dX7_init_1 : decode cX7_init 1 = .ok (.invokespecial 1, 3) := by decide +kernel
theorem dX7_init_4 : decode cX7_init 4 = .ok (.aload_n 0, 1) := by decide +kernel
theorem dX7_init_5 : decode cX7_init 5 = .ok (.sipush 160, 3) := by decide +kernel
theorem dX7_init_8 : decode cX7_init 8 = .ok (.newarray .int, 2) := by decide +kernel
theorem dX7_init_10 : decode cX7_init 10 = .ok (.putfield 7, 3) := by decide +kernel
theorem dX7_init_13 : decode cX7_init 13 = .ok (.aload_n 0, 1) := by decide +kernel
theorem dX7_init_14 : decode cX7_init 14 = .ok (.sipush 160, 3) := by decide +kernel
theorem dX7_init_17 : decode cX7_init 17 = .ok (.newarray .int, 2) := by decide +kernel
theorem dX7_init_19 : decode cX7_init 19 = .ok (.putfield 13, 3) := by decide +kernel
theorem dX7_init_22 : decode cX7_init 22 = .ok (.aload_n 0, 1) := by decide +kernel
theorem dX7_init_23 : decode cX7_init 23 = .ok (.sipush 160, 3) := by decide +kernel
theorem dX7_init_26 : decode cX7_init 26 = .ok (.newarray .int, 2) := by decide +kernel
theorem dX7_init_28 : decode cX7_init 28 = .ok (.putfield 16, 3) := by decide +kernel
theorem dX7_init_31 : decode cX7_init 31 = .ok (.aload_n 0, 1) := by decide +kernel
theorem dX7_init_32 : decode cX7_init 32 = .ok (.sipush 160, 3) := by decide +kernel
theorem dX7_init_35 : decode cX7_init 35 = .ok (.newarray .int, 2) := by decide +kernel
theorem dX7_init_37 : decode cX7_init 37 = .ok (.putfield 19, 3) := by decide +kernel
theorem dX7_init_40 : decode cX7_init 40 = .ok (.aload_n 0, 1) := by decide +kernel
theorem dX7_init_41 : decode cX7_init 41 = .ok (.sipush 160, 3) := by decide +kernel
theorem dX7_init_44 : decode cX7_init 44 = .ok (.newarray .int, 2) := by decide +kernel
theorem dX7_init_46 : decode cX7_init 46 = .ok (.putfield 22, 3) := by decide +kernel
theorem dX7_init_49 : decode cX7_init 49 = .ok (.aload_n 0, 1) := by decide +kernel
theorem dX7_init_50 : decode cX7_init 50 = .ok (.sipush 160, 3) := by decide +kernel
theorem dX7_init_53 : decode cX7_init 53 = .ok (.newarray .int, 2) := by decide +kernel
theorem dX7_init_55 : decode cX7_init 55 = .ok (.putfield 25, 3) := by decide +kernel
theorem dX7_init_58 : decode cX7_init 58 = .ok (.aload_n 0, 1) := by decide +kernel
theorem dX7_init_59 : decode cX7_init 59 = .ok (.sipush 160, 3) := by decide +kernel
theorem dX7_init_62 : decode cX7_init 62 = .ok (.newarray .long, 2) := by decide +kernel
theorem dX7_init_64 : decode cX7_init 64 = .ok (.putfield 28, 3) := by decide +kernel
theorem dX7_init_67 : decode cX7_init 67 = .ok (.aload_n 0, 1) := by decide +kernel
theorem dX7_init_68 : decode cX7_init 68 = .ok (.sipush 160, 3) := by decide +kernel
theorem dX7_init_71 : decode cX7_init 71 = .ok (.newarray .int, 2) := by decide +kernel
theorem dX7_init_73 : decode cX7_init 73 = .ok (.putfield 32, 3) := by decide +kernel
theorem dX7_init_76 : decode cX7_init 76 = .ok (.aload_n 0, 1) := by decide +kernel
theorem dX7_init_77 : decode cX7_init 77 = .ok (.sipush 160, 3) := by decide +kernel
theorem dX7_init_80 : decode cX7_init 80 = .ok (.newarray .int, 2) := by decide +kernel
theorem dX7_init_82 : decode cX7_init 82 = .ok (.putfield 35, 3) := by decide +kernel
theorem dX7_init_85 : decode cX7_init 85 = .ok (.aload_n 0, 1) := by decide +kernel
theorem dX7_init_86 : decode cX7_init 86 = .ok (.sipush 160, 3) := by decide +kernel
theorem dX7_init_89 : decode cX7_init 89 = .ok (.newarray .int, 2) := by decide +kernel
theorem dX7_init_91 : decode cX7_init 91 = .ok (.putfield 38, 3) := by decide +kernel
theorem dX7_init_94 : decode cX7_init 94 = .ok (.aload_n 0, 1) := by decide +kernel
theorem dX7_init_95 : decode cX7_init 95 = .ok (.bipush 6, 2) := by decide +kernel
theorem dX7_init_97 : decode cX7_init 97 = .ok (.newarray .int, 2) := by decide +kernel
theorem dX7_init_99 : decode cX7_init 99 = .ok (.putfield 41, 3) := by decide +kernel
theorem dX7_init_102 : decode cX7_init 102 = .ok (.aload_n 0, 1) := by decide +kernel
theorem dX7_init_103 : decode cX7_init 103 = .ok (.bipush 6, 2) := by decide +kernel
theorem dX7_init_105 : decode cX7_init 105 = .ok (.newarray .int, 2) := by decide +kernel
theorem dX7_init_107 : decode cX7_init 107 = .ok (.putfield 44, 3) := by decide +kernel
theorem dX7_init_110 : decode cX7_init 110 = .ok (.aload_n 0, 1) := by decide +kernel
theorem dX7_init_111 : decode cX7_init 111 = .ok (.iconst 1, 1) := by decide +kernel
theorem dX7_init_112 : decode cX7_init 112 = .ok (.putfield 47, 3) := by decide +kernel
theorem dX7_init_115 : decode cX7_init 115 = .ok (.aload_n 0, 1) := by decide +kernel
theorem dX7_init_116 : decode cX7_init 116 = .ok (.sipush 1920, 3) := by decide +kernel
theorem dX7_init_119 : decode cX7_init 119 = .ok (.putfield 51, 3) := by decide +kernel
theorem dX7_init_122 : decode cX7_init 122 = .ok (.aload_n 0, 1) := by decide +kernel
theorem dX7_init_123 : decode cX7_init 123 = .ok (.bipush 64, 2) := by decide +kernel
theorem dX7_init_125 : decode cX7_init 125 = .ok (.newarray .int, 2) := by decide +kernel
theorem dX7_init_127 : decode cX7_init 127 = .ok (.putfield 55, 3) := by decide +kernel
theorem dX7_init_130 : decode cX7_init 130 = .ok (.aload_n 0, 1) := by decide +kernel
theorem dX7_init_131 : decode cX7_init 131 = .ok (.bipush 64, 2) := by decide +kernel
theorem dX7_init_133 : decode cX7_init 133 = .ok (.newarray .int, 2) := by decide +kernel
theorem dX7_init_135 : decode cX7_init 135 = .ok (.putfield 58, 3) := by decide +kernel
theorem dX7_init_138 : decode cX7_init 138 = .ok (.aload_n 0, 1) := by decide +kernel
theorem dX7_init_139 : decode cX7_init 139 = .ok (.bipush 64, 2) := by decide +kernel
theorem dX7_init_141 : decode cX7_init 141 = .ok (.newarray .int, 2) := by decide +kernel
theorem dX7_init_143 : decode cX7_init 143 = .ok (.putfield 61, 3) := by decide +kernel
theorem dX7_init_146 : decode cX7_init 146 = .ok (.aload_n 0, 1) := by decide +kernel
theorem dX7_init_147 : decode cX7_init 147 = .ok (.iconst 2, 1) := by decide +kernel
theorem dX7_init_148 : decode cX7_init 148 = .ok (.newarray .boolean, 2) := by decide +kernel
theorem dX7_init_150 : decode cX7_init 150 = .ok (.putfield 64, 3) := by decide +kernel
theorem dX7_init_153 : decode cX7_init 153 = .ok (.aload_n 0, 1) := by decide +kernel
theorem dX7_init_154 : decode cX7_init 154 = .ok (.iconst 2, 1) := by decide +kernel
theorem dX7_init_155 : decode cX7_init 155 = .ok (.newarray .boolean, 2) := by decide +kernel
theorem dX7_init_157 : decode cX7_init 157 = .ok (.putfield 68, 3) := by decide +kernel
theorem dX7_init_160 : decode cX7_init 160 = .ok (.aload_n 0, 1) := by decide +kernel
theorem dX7_init_161 : decode cX7_init 161 = .ok (.iconst 2, 1) := by decide +kernel
theorem dX7_init_162 : decode cX7_init 162 = .ok (.newarray .long, 2) := by decide +kernel
theorem dX7_init_164 : decode cX7_init 164 = .ok (.putfield 71, 3) := by decide +kernel
theorem dX7_init_167 : decode cX7_init 167 = .ok (.return_, 1) := by decide +kernel
theorem dX7_thrown_0 : decode cX7_thrown 0 = .ok (.aload_n 0, 1) := by decide +kernel
theorem dX7_thrown_1 : decode cX7_thrown 1 = .ok (.getfield 74, 3) := by decide +kernel
theorem dX7_thrown_4 : decode cX7_thrown 4 = .ok (.ireturn, 1) := by decide +kernel
theorem dX7_type_0 : decode cX7_type 0 = .ok (.aload_n 0, 1) := by decide +kernel
theorem dX7_type_1 : decode cX7_type 1 = .ok (.iconst 0, 1) := by decide +kernel
theorem dX7_type_2 : decode cX7_type 2 = .ok (.putfield 74, 3) := by decide +kernel
theorem dX7_type_5 : decode cX7_type 5 = .ok (.iload_n 3, 1) := by decide +kernel
theorem dX7_type_6 : decode cX7_type 6 = .ok (.iconst 1, 1) := by decide +kernel
theorem dX7_type_7 : decode cX7_type 7 = .ok (.if_icmp .lt 21, 3) := by decide +kernel
theorem dX7_type_10 : decode cX7_type 10 = .ok (.iload_n 3, 1) := by decide +kernel
theorem dX7_type_11 : decode cX7_type 11 = .ok (.bipush 8, 2) := by decide +kernel
theorem dX7_type_13 : decode cX7_type 13 = .ok (.if_icmp .gt 15, 3) := by decide +kernel
theorem dX7_type_16 : decode cX7_type 16 = .ok (.aload_n 0, 1) := by decide +kernel
theorem dX7_type_17 : decode cX7_type 17 = .ok (.getfield 77, 3) := by decide +kernel
theorem dX7_type_20 : decode cX7_type 20 = .ok (.iload_n 3, 1) := by decide +kernel
theorem dX7_type_21 : decode cX7_type 21 = .ok (.iadd, 1) := by decide +kernel
theorem dX7_type_22 : decode cX7_type 22 = .ok (.sipush 160, 3) := by decide +kernel
theorem dX7_type_25 : decode cX7_type 25 = .ok (.if_icmp .le 5, 3) := by decide +kernel
theorem dX7_type_28 : decode cX7_type 28 = .ok (.iconst 0, 1) := by decide +kernel
theorem dX7_type_29 : decode cX7_type 29 = .ok (.ireturn, 1) := by decide +kernel
theorem dX7_type_30 : decode cX7_type 30 = .ok (.iconst 0, 1) := by decide +kernel
theorem dX7_type_31 : decode cX7_type 31 = .ok (.istore 4, 2) := by decide +kernel
theorem dX7_type_33 : decode cX7_type 33 = .ok (.iload 4, 2) := by decide +kernel
theorem dX7_type_35 : decode cX7_type 35 = .ok (.iload_n 3, 1) := by decide +kernel
theorem dX7_type_36 : decode cX7_type 36 = .ok (.if_icmp .ge 42, 3) := by decide +kernel
theorem dX7_type_39 : decode cX7_type 39 = .ok (.lload_n 1, 1) := by decide +kernel
theorem dX7_type_40 : decode cX7_type 40 = .ok (.bipush 8, 2) := by decide +kernel
theorem dX7_type_42 : decode cX7_type 42 = .ok (.iload 4, 2) := by decide +kernel
theorem dX7_type_44 : decode cX7_type 44 = .ok (.imul, 1) := by decide +kernel
theorem dX7_type_45 : decode cX7_type 45 = .ok (.lshr, 1) := by decide +kernel
theorem dX7_type_46 : decode cX7_type 46 = .ok (.ldc2_w 80, 3) := by decide +kernel
theorem dX7_type_49 : decode cX7_type 49 = .ok (.land, 1) := by decide +kernel
theorem dX7_type_50 : decode cX7_type 50 = .ok (.lstore 5, 2) := by decide +kernel
theorem dX7_type_52 : decode cX7_type 52 = .ok (.lload 5, 2) := by decide +kernel
theorem dX7_type_54 : decode cX7_type 54 = .ok (.ldc2_w 82, 3) := by decide +kernel
theorem dX7_type_57 : decode cX7_type 57 = .ok (.lcmp, 1) := by decide +kernel
theorem dX7_type_58 : decode cX7_type 58 = .ok (.ifCond .lt 12, 3) := by decide +kernel
theorem dX7_type_61 : decode cX7_type 61 = .ok (.lload 5, 2) := by decide +kernel
theorem dX7_type_63 : decode cX7_type 63 = .ok (.ldc2_w 84, 3) := by decide +kernel
theorem dX7_type_66 : decode cX7_type 66 = .ok (.lcmp, 1) := by decide +kernel
theorem dX7_type_67 : decode cX7_type 67 = .ok (.ifCond .le 5, 3) := by decide +kernel
theorem dX7_type_70 : decode cX7_type 70 = .ok (.iconst 0, 1) := by decide +kernel
theorem dX7_type_71 : decode cX7_type 71 = .ok (.ireturn, 1) := by decide +kernel
theorem dX7_type_72 : decode cX7_type 72 = .ok (.iinc 4 1, 3) := by decide +kernel
theorem dX7_type_75 : decode cX7_type 75 = .ok (.goto (-42), 3) := by decide +kernel
theorem dX7_type_78 : decode cX7_type 78 = .ok (.iload_n 3, 1) := by decide +kernel
theorem dX7_type_79 : decode cX7_type 79 = .ok (.iconst 1, 1) := by decide +kernel
theorem dX7_type_80 : decode cX7_type 80 = .ok (.isub, 1) := by decide +kernel
theorem dX7_type_81 : decode cX7_type 81 = .ok (.istore 4, 2) := by decide +kernel
theorem dX7_type_83 : decode cX7_type 83 = .ok (.iload 4, 2) := by decide +kernel
theorem dX7_type_85 : decode cX7_type 85 = .ok (.ifCond .lt 40, 3) := by decide +kernel
theorem dX7_type_88 : decode cX7_type 88 = .ok (.aload_n 0, 1) := by decide +kernel
theorem dX7_type_89 : decode cX7_type 89 = .ok (.getfield 7, 3) := by decide +kernel
theorem dX7_type_92 : decode cX7_type 92 = .ok (.aload_n 0, 1) := by decide +kernel
theorem dX7_type_93 : decode cX7_type 93 = .ok (.getfield 77, 3) := by decide +kernel
theorem dX7_type_96 : decode cX7_type 96 = .ok (.lload_n 1, 1) := by decide +kernel
theorem dX7_type_97 : decode cX7_type 97 = .ok (.bipush 8, 2) := by decide +kernel
theorem dX7_type_99 : decode cX7_type 99 = .ok (.iload 4, 2) := by decide +kernel
theorem dX7_type_101 : decode cX7_type 101 = .ok (.imul, 1) := by decide +kernel
theorem dX7_type_102 : decode cX7_type 102 = .ok (.lshr, 1) := by decide +kernel
theorem dX7_type_103 : decode cX7_type 103 = .ok (.ldc2_w 80, 3) := by decide +kernel
theorem dX7_type_106 : decode cX7_type 106 = .ok (.land, 1) := by decide +kernel
theorem dX7_type_107 : decode cX7_type 107 = .ok (.l2i, 1) := by decide +kernel
theorem dX7_type_108 : decode cX7_type 108 = .ok (.iastore, 1) := by decide +kernel
theorem dX7_type_109 : decode cX7_type 109 = .ok (.aload_n 0, 1) := by decide +kernel
theorem dX7_type_110 : decode cX7_type 110 = .ok (.dup, 1) := by decide +kernel
theorem dX7_type_111 : decode cX7_type 111 = .ok (.getfield 77, 3) := by decide +kernel
theorem dX7_type_114 : decode cX7_type 114 = .ok (.iconst 1, 1) := by decide +kernel
theorem dX7_type_115 : decode cX7_type 115 = .ok (.iadd, 1) := by decide +kernel
theorem dX7_type_116 : decode cX7_type 116 = .ok (.putfield 77, 3) := by decide +kernel
theorem dX7_type_119 : decode cX7_type 119 = .ok (.iinc 4 (-1), 3) := by decide +kernel
theorem dX7_type_122 : decode cX7_type 122 = .ok (.goto (-39), 3) := by decide +kernel
theorem dX7_type_125 : decode cX7_type 125 = .ok (.iconst 1, 1) := by decide +kernel
theorem dX7_type_126 : decode cX7_type 126 = .ok (.ireturn, 1) := by decide +kernel
theorem dX7_see_0 : decode cX7_see 0 = .ok (.aload_n 0, 1) := by decide +kernel
theorem dX7_see_1 : decode cX7_see 1 = .ok (.getfield 86, 3) := by decide +kernel
theorem dX7_see_4 : decode cX7_see 4 = .ok (.aload_n 0, 1) := by decide +kernel
theorem dX7_see_5 : decode cX7_see 5 = .ok (.getfield 77, 3) := by decide +kernel
theorem dX7_see_8 : decode cX7_see 8 = .ok (.if_icmp .ge 15, 3) := by decide +kernel
theorem dX7_see_11 : decode cX7_see 11 = .ok (.aload_n 0, 1) := by decide +kernel
theorem dX7_see_12 : decode cX7_see 12 = .ok (.getfield 7, 3) := by decide +kernel
theorem dX7_see_15 : decode cX7_see 15 = .ok (.aload_n 0, 1) := by decide +kernel
theorem dX7_see_16 : decode cX7_see 16 = .ok (.getfield 86, 3) := by decide +kernel
theorem dX7_see_19 : decode cX7_see 19 = .ok (.iaload, 1) := by decide +kernel
theorem dX7_see_20 : decode cX7_see 20 = .ok (.goto 4, 3) := by decide +kernel
theorem dX7_see_23 : decode cX7_see 23 = .ok (.iconst (-1), 1) := by decide +kernel
theorem dX7_see_24 : decode cX7_see 24 = .ok (.ireturn, 1) := by decide +kernel
set_option maxRecDepth 20000 in
theorem ggX7_skip_X7_see : GoodIn wsX7_skip wsX7_see := goodIn_r _ [6, 1, 7, 8, 9, 10, 11, 12, 13, 14, 15, 16, 17, 18, 19, 20, 21, 22, 23, 24, 25, 26, 27, 28, 29, 30, 31, 32, 33, 34, 35, 36, 37, 38, 39, 40, 41, 42, 43, 44, 45, 46, 47, 48, 49, 50, 51, 52] (by decide +kernel) (by decide +kernel)
set_option maxRecDepth 20000 in
theorem gX7_skip_X7_see : GoodIn wsX7_skip (wsV RX7 89 RX7 yX7_see wsX7_see) := goodIn_app (goodIn_of _ (by decide +kernel)) ggX7_skip_X7_see
theorem dX7_skip_0 : decode cX7_skip 0 = .ok (.aload_n 0, 1) := by decide +kernel
theorem dX7_skip_1 : decode cX7_skip 1 = .ok (.invokevirtual 89, 3) := by decide +kernel
theorem dX7_skip_4 : decode cX7_skip 4 = .ok (.bipush 32, 2) := by decide +kernel
theorem dX7_skip_6 : decode cX7_skip 6 = .ok (.if_icmp .ne 16, 3) := by decide +kernel
theorem dX7_skip_9 : decode cX7_skip 9 = .ok (.aload_n 0, 1) := by decide +kernel
theorem dX7_skip_10 : decode cX7_skip 10 = .ok (.dup, 1) := by decide +kernel
theorem dX7_skip_11 : decode cX7_skip 11 = .ok (.getfield 86, 3) := by decide +kernel
theorem dX7_skip_14 : decode cX7_skip 14 = .ok (.iconst 1, 1) := by decide +kernel
theorem dX7_skip_15 : decode cX7_skip 15 = .ok (.iadd, 1) := by decide +kernel
theorem dX7_skip_16 : decode cX7_skip 16 = .ok (.putfield 86, 3) := by decide +kernel
theorem dX7_skip_19 : decode cX7_skip 19 = .ok (.goto (-19), 3) := by decide +kernel
theorem dX7_skip_22 : decode cX7_skip 22 = .ok (.return_, 1) := by decide +kernel
theorem dX7_digit_0 : decode cX7_digit 0 = .ok (.iload_n 0, 1) := by decide +kernel
theorem dX7_digit_1 : decode cX7_digit 1 = .ok (.bipush 48, 2) := by decide +kernel
theorem dX7_digit_3 : decode cX7_digit 3 = .ok (.if_icmp .lt 16, 3) := by decide +kernel
theorem dX7_digit_6 : decode cX7_digit 6 = .ok (.iload_n 0, 1) := by decide +kernel
theorem dX7_digit_7 : decode cX7_digit 7 = .ok (.bipush 57, 2) := by decide +kernel
theorem dX7_digit_9 : decode cX7_digit 9 = .ok (.if_icmp .gt 10, 3) := by decide +kernel
theorem dX7_digit_12 : decode cX7_digit 12 = .ok (.iload_n 0, 1) := by decide +kernel
theorem dX7_digit_13 : decode cX7_digit 13 = .ok (.bipush 48, 2) := by decide +kernel
theorem dX7_digit_15 : decode cX7_digit 15 = .ok (.isub, 1) := by decide +kernel
theorem dX7_digit_16 : decode cX7_digit 16 = .ok (.goto 27, 3) := by decide +kernel
theorem dX7_digit_19 : decode cX7_digit 19 = .ok (.iload_n 0, 1) := by decide +kernel
theorem dX7_digit_20 : decode cX7_digit 20 = .ok (.bipush 97, 2) := by decide +kernel
theorem dX7_digit_22 : decode cX7_digit 22 = .ok (.if_icmp .lt 19, 3) := by decide +kernel
theorem dX7_digit_25 : decode cX7_digit 25 = .ok (.iload_n 0, 1) := by decide +kernel
theorem dX7_digit_26 : decode cX7_digit 26 = .ok (.bipush 102, 2) := by decide +kernel
theorem dX7_digit_28 : decode cX7_digit 28 = .ok (.if_icmp .gt 13, 3) := by decide +kernel
theorem dX7_digit_31 : decode cX7_digit 31 = .ok (.iload_n 0, 1) := by decide +kernel
theorem dX7_digit_32 : decode cX7_digit 32 = .ok (.bipush 97, 2) := by decide +kernel
theorem dX7_digit_34 : decode cX7_digit 34 = .ok (.isub, 1) := by decide +kernel
theorem dX7_digit_35 : decode cX7_digit 35 = .ok (.bipush 10, 2) := by decide +kernel
theorem dX7_digit_37 : decode cX7_digit 37 = .ok (.iadd, 1) := by decide +kernel
theorem dX7_digit_38 : decode cX7_digit 38 = .ok (.goto 5, 3) := by decide +kernel
theorem dX7_digit_41 : decode cX7_digit 41 = .ok (.bipush 99, 2) := by decide +kernel
theorem dX7_digit_43 : decode cX7_digit 43 = .ok (.ireturn, 1) := by decide +kernel
theorem dX7_item_0 : decode cX7_item 0 = .ok (.aload_n 0, 1) := by decide +kernel
theorem dX7_item_1 : decode cX7_item 1 = .ok (.getfield 32, 3) := by decide +kernel
theorem dX7_item_4 : decode cX7_item 4 = .ok (.aload_n 0, 1) := by decide +kernel
theorem dX7_item_5 : decode cX7_item 5 = .ok (.getfield 93, 3) := by decide +kernel
theorem dX7_item_8 : decode cX7_item 8 = .ok (.iload_n 1, 1) := by decide +kernel
theorem dX7_item_9 : decode cX7_item 9 = .ok (.iastore, 1) := by decide +kernel
theorem dX7_item_10 : decode cX7_item 10 = .ok (.aload_n 0, 1) := by decide +kernel
theorem dX7_item_11 : decode cX7_item 11 = .ok (.getfield 35, 3) := by decide +kernel
theorem dX7_item_14 : decode cX7_item 14 = .ok (.aload_n 0, 1) := by decide +kernel
theorem dX7_item_15 : decode cX7_item 15 = .ok (.getfield 93, 3) := by decide +kernel
theorem dX7_item_18 : decode cX7_item 18 = .ok (.iload_n 2, 1) := by decide +kernel
theorem dX7_item_19 : decode cX7_item 19 = .ok (.iastore, 1) := by decide +kernel
theorem dX7_item_20 : decode cX7_item 20 = .ok (.aload_n 0, 1) := by decide +kernel
theorem dX7_item_21 : decode cX7_item 21 = .ok (.getfield 38, 3) := by decide +kernel
theorem dX7_item_24 : decode cX7_item 24 = .ok (.aload_n 0, 1) := by decide +kernel
theorem dX7_item_25 : decode cX7_item 25 = .ok (.getfield 93, 3) := by decide +kernel
theorem dX7_item_28 : decode cX7_item 28 = .ok (.aload_n 0, 1) := by decide +kernel
theorem dX7_item_29 : decode cX7_item 29 = .ok (.getfield 93, 3) := by decide +kernel
theorem dX7_item_32 : decode cX7_item 32 = .ok (.iconst 1, 1) := by decide +kernel
theorem dX7_item_33 : decode cX7_item 33 = .ok (.iadd, 1) := by decide +kernel
theorem dX7_item_34 : decode cX7_item 34 = .ok (.iastore, 1) := by decide +kernel
theorem dX7_item_35 : decode cX7_item 35 = .ok (.aload_n 0, 1) := by decide +kernel
theorem dX7_item_36 : decode cX7_item 36 = .ok (.dup, 1) := by decide +kernel
theorem dX7_item_37 : decode cX7_item 37 = .ok (.getfield 93, 3) := by decide +kernel
theorem dX7_item_40 : decode cX7_item 40 = .ok (.iconst 1, 1) := by decide +kernel
theorem dX7_item_41 : decode cX7_item 41 = .ok (.iadd, 1) := by decide +kernel
theorem dX7_item_42 : decode cX7_item 42 = .ok (.putfield 93, 3) := by decide +kernel
theorem dX7_item_45 : decode cX7_item 45 = .ok (.return_, 1) := by decide +kernel
theorem dX7_isDensity_0 : decode cX7_isDensity 0 = .ok (.iload_n 0, 1) := by decide +kernel
theorem dX7_isDensity_1 : decode cX7_isDensity 1 = .ok (.lookupswitch 101 #[(20, 99), (25, 99), (40, 99), (50, 99), (80, 99), (100, 99), (125, 99), (160, 99), (200, 99), (250, 99), (400, 99)], 99) := by decide +kernel
theorem dX7_isDensity_100 : decode cX7_isDensity 100 = .ok (.iconst 1, 1) := by decide +kernel
theorem dX7_isDensity_101 : decode cX7_isDensity 101 = .ok (.ireturn, 1) := by decide +kernel
theorem dX7_isDensity_102 : decode cX7_isDensity 102 = .ok (.iconst 0, 1) := by decide +kernel
theorem dX7_isDensity_103 : decode cX7_isDensity 103 = .ok (.ireturn, 1) := by decide +kernel
set_option maxRecDepth 20000 in
theorem ggX7_readsWord_X7_see : GoodIn wsX7_readsWord wsX7_see := goodIn_r _ [7, 1, 8, 9, 24, 25, 26, 27, 28, 29, 30, 31, 32, 33, 34, 35, 36, 37, 38, 39, 40, 41, 42, 43, 44, 45, 46, 47, 48, 49, 50, 51, 52, 53, 54, 55, 56, 57, 58, 59, 60, 61, 62, 63, 64, 65, 66, 67] (by decide +kernel) (by decide +kernel)
set_option maxRecDepth 20000 in
theorem gX7_readsWord_X7_see : GoodIn wsX7_readsWord (wsV RX7 89 RX7 yX7_see wsX7_see) := goodIn_app (goodIn_of _ (by decide +kernel)) ggX7_readsWord_X7_see
set_option maxRecDepth 20000 in
theorem ggX7_readsWord_X7_digit : GoodIn wsX7_readsWord wsX7_digit := goodIn_r _ [12] (by decide +kernel) (by decide +kernel)
set_option maxRecDepth 20000 in
theorem gX7_readsWord_X7_digit : GoodIn wsX7_readsWord (va_wsS RX7 96 yX7_digit wsX7_digit) := goodIn_app (goodIn_of _ (by decide +kernel)) ggX7_readsWord_X7_digit
set_option maxRecDepth 20000 in
theorem ggX7_readsWord_X7_isDensity : GoodIn wsX7_readsWord wsX7_isDensity := goodIn_r _ [15] (by decide +kernel) (by decide +kernel)
set_option maxRecDepth 20000 in
theorem gX7_readsWord_X7_isDensity : GoodIn wsX7_readsWord (va_wsS RX7 100 yX7_isDensity wsX7_isDensity) := goodIn_app (goodIn_of _ (by decide +kernel)) ggX7_readsWord_X7_isDensity
set_option maxRecDepth 20000 in
theorem ggX7_readsWord_X7_item : GoodIn wsX7_readsWord wsX7_item := goodIn_r _ [19, 20, 21, 22, 23, 24, 25, 26, 27, 28, 29, 30, 31, 32, 33, 34, 35, 36, 37, 38, 39, 40, 41, 42, 43, 44, 45, 46, 47, 48, 49, 50, 51, 52, 53, 54, 55, 56, 57, 58, 59, 60, 61, 62, 63, 64, 65, 66, 67] (by decide +kernel) (by decide +kernel)
set_option maxRecDepth 20000 in
theorem gX7_readsWord_X7_item : GoodIn wsX7_readsWord (wsV RX7 107 RX7 yX7_item wsX7_item) := goodIn_app (goodIn_of _ (by decide +kernel)) ggX7_readsWord_X7_item
theorem dX7_readsWord_0 : decode cX7_readsWord 0 = .ok (.aload_n 0, 1) := by decide +kernel
theorem dX7_readsWord_1 : decode cX7_readsWord 1 = .ok (.getfield 86, 3) := by decide +kernel
theorem dX7_readsWord_4 : decode cX7_readsWord 4 = .ok (.istore_n 2, 1) := by decide +kernel
theorem dX7_readsWord_5 : decode cX7_readsWord 5 = .ok (.iconst 0, 1) := by decide +kernel
theorem dX7_readsWord_6 : decode cX7_readsWord 6 = .ok (.istore_n 3, 1) := by decide +kernel
theorem dX7_readsWord_7 : decode cX7_readsWord 7 = .ok (.iload_n 1, 1) := by decide +kernel
theorem dX7_readsWord_8 : decode cX7_readsWord 8 = .ok (.bipush 104, 2) := by decide +kernel
theorem dX7_readsWord_10 : decode cX7_readsWord 10 = .ok (.if_icmp .ne 8, 3) := by decide +kernel
theorem dX7_readsWord_13 : decode cX7_readsWord 13 = .ok (.bipush 6, 2) := by decide +kernel
theorem dX7_readsWord_15 : decode cX7_readsWord 15 = .ok (.goto 16, 3) := by decide +kernel
theorem dX7_readsWord_18 : decode cX7_readsWord 18 = .ok (.iload_n 1, 1) := by decide +kernel
theorem dX7_readsWord_19 : decode cX7_readsWord 19 = .ok (.bipush 99, 2) := by decide +kernel
theorem dX7_readsWord_21 : decode cX7_readsWord 21 = .ok (.if_icmp .ne 7, 3) := by decide +kernel
theorem dX7_readsWord_24 : decode cX7_readsWord 24 = .ok (.iconst 1, 1) := by decide +kernel
theorem dX7_readsWord_25 : decode cX7_readsWord 25 = .ok (.goto 6, 3) := by decide +kernel
theorem dX7_readsWord_28 : decode cX7_readsWord 28 = .ok (.sipush 160, 3) := by decide +kernel
theorem dX7_readsWord_31 : decode cX7_readsWord 31 = .ok (.istore 4, 2) := by decide +kernel
theorem dX7_readsWord_33 : decode cX7_readsWord 33 = .ok (.iload_n 1, 1) := by decide +kernel
theorem dX7_readsWord_34 : decode cX7_readsWord 34 = .ok (.bipush 104, 2) := by decide +kernel
theorem dX7_readsWord_36 : decode cX7_readsWord 36 = .ok (.if_icmp .ne 8, 3) := by decide +kernel
theorem dX7_readsWord_39 : decode cX7_readsWord 39 = .ok (.bipush 16, 2) := by decide +kernel
theorem dX7_readsWord_41 : decode cX7_readsWord 41 = .ok (.goto 5, 3) := by decide +kernel
theorem dX7_readsWord_44 : decode cX7_readsWord 44 = .ok (.bipush 10, 2) := by decide +kernel
theorem dX7_readsWord_46 : decode cX7_readsWord 46 = .ok (.istore 5, 2) := by decide +kernel
theorem dX7_readsWord_48 : decode cX7_readsWord 48 = .ok (.aload_n 0, 1) := by decide +kernel
theorem dX7_readsWord_49 : decode cX7_readsWord 49 = .ok (.getfield 86, 3) := by decide +kernel
theorem dX7_readsWord_52 : decode cX7_readsWord 52 = .ok (.iload_n 2, 1) := by decide +kernel
theorem dX7_readsWord_53 : decode cX7_readsWord 53 = .ok (.isub, 1) := by decide +kernel
theorem dX7_readsWord_54 : decode cX7_readsWord 54 = .ok (.iload 4, 2) := by decide +kernel
theorem dX7_readsWord_56 : decode cX7_readsWord 56 = .ok (.if_icmp .ge 62, 3) := by decide +kernel
theorem dX7_readsWord_59 : decode cX7_readsWord 59 = .ok (.aload_n 0, 1) := by decide +kernel
theorem dX7_readsWord_60 : decode cX7_readsWord 60 = .ok (.invokevirtual 89, 3) := by decide +kernel
theorem dX7_readsWord_63 : decode cX7_readsWord 63 = .ok (.invokestatic 96, 3) := by decide +kernel
theorem dX7_readsWord_66 : decode cX7_readsWord 66 = .ok (.iload 5, 2) := by decide +kernel
theorem dX7_readsWord_68 : decode cX7_readsWord 68 = .ok (.if_icmp .ge 50, 3) := by decide +kernel
theorem dX7_readsWord_71 : decode cX7_readsWord 71 = .ok (.iload 5, 2) := by decide +kernel
theorem dX7_readsWord_73 : decode cX7_readsWord 73 = .ok (.iload_n 3, 1) := by decide +kernel
theorem dX7_readsWord_74 : decode cX7_readsWord 74 = .ok (.imul, 1) := by decide +kernel
theorem dX7_readsWord_75 : decode cX7_readsWord 75 = .ok (.aload_n 0, 1) := by decide +kernel
theorem dX7_readsWord_76 : decode cX7_readsWord 76 = .ok (.invokevirtual 89, 3) := by decide +kernel
theorem dX7_readsWord_79 : decode cX7_readsWord 79 = .ok (.invokestatic 96, 3) := by decide +kernel
theorem dX7_readsWord_82 : decode cX7_readsWord 82 = .ok (.iadd, 1) := by decide +kernel
theorem dX7_readsWord_83 : decode cX7_readsWord 83 = .ok (.istore_n 3, 1) := by decide +kernel
theorem dX7_readsWord_84 : decode cX7_readsWord 84 = .ok (.iload_n 1, 1) := by decide +kernel
theorem dX7_readsWord_85 : decode cX7_readsWord 85 = .ok (.bipush 100, 2) := by decide +kernel
theorem dX7_readsWord_87 : decode cX7_readsWord 87 = .ok (.if_icmp .ne 16, 3) := by decide +kernel
theorem dX7_readsWord_90 : decode cX7_readsWord 90 = .ok (.iload_n 3, 1) := by decide +kernel
theorem dX7_readsWord_91 : decode cX7_readsWord 91 = .ok (.sipush 1000, 3) := by decide +kernel
theorem dX7_readsWord_94 : decode cX7_readsWord 94 = .ok (.if_icmp .le 9, 3) := by decide +kernel
theorem dX7_readsWord_97 : decode cX7_readsWord 97 = .ok (.sipush 1000, 3) := by decide +kernel
theorem dX7_readsWord_100 : decode cX7_readsWord 100 = .ok (.goto 4, 3) := by decide +kernel
theorem dX7_readsWord_103 : decode cX7_readsWord 103 = .ok (.iload_n 3, 1) := by decide +kernel
theorem dX7_readsWord_104 : decode cX7_readsWord 104 = .ok (.istore_n 3, 1) := by decide +kernel
theorem dX7_readsWord_105 : decode cX7_readsWord 105 = .ok (.aload_n 0, 1) := by decide +kernel
theorem dX7_readsWord_106 : decode cX7_readsWord 106 = .ok (.dup, 1) := by decide +kernel
theorem dX7_readsWord_107 : decode cX7_readsWord 107 = .ok (.getfield 86, 3) := by decide +kernel
theorem dX7_readsWord_110 : decode cX7_readsWord 110 = .ok (.iconst 1, 1) := by decide +kernel
theorem dX7_readsWord_111 : decode cX7_readsWord 111 = .ok (.iadd, 1) := by decide +kernel
theorem dX7_readsWord_112 : decode cX7_readsWord 112 = .ok (.putfield 86, 3) := by decide +kernel
theorem dX7_readsWord_115 : decode cX7_readsWord 115 = .ok (.goto (-67), 3) := by decide +kernel
theorem dX7_readsWord_118 : decode cX7_readsWord 118 = .ok (.aload_n 0, 1) := by decide +kernel
theorem dX7_readsWord_119 : decode cX7_readsWord 119 = .ok (.getfield 86, 3) := by decide +kernel
theorem dX7_readsWord_122 : decode cX7_readsWord 122 = .ok (.iload_n 2, 1) := by decide +kernel
theorem dX7_readsWord_123 : decode cX7_readsWord 123 = .ok (.if_icmp .ne 5, 3) := by decide +kernel
theorem dX7_readsWord_126 : decode cX7_readsWord 126 = .ok (.iconst 0, 1) := by decide +kernel
theorem dX7_readsWord_127 : decode cX7_readsWord 127 = .ok (.ireturn, 1) := by decide +kernel
theorem dX7_readsWord_128 : decode cX7_readsWord 128 = .ok (.iload_n 1, 1) := by decide +kernel
theorem dX7_readsWord_129 : decode cX7_readsWord 129 = .ok (.bipush 99, 2) := by decide +kernel
theorem dX7_readsWord_131 : decode cX7_readsWord 131 = .ok (.if_icmp .ne 9, 3) := by decide +kernel
theorem dX7_readsWord_134 : decode cX7_readsWord 134 = .ok (.iload_n 3, 1) := by decide +kernel
theorem dX7_readsWord_135 : decode cX7_readsWord 135 = .ok (.bipush 7, 2) := by decide +kernel
theorem dX7_readsWord_137 : decode cX7_readsWord 137 = .ok (.if_icmp .gt 16, 3) := by decide +kernel
theorem dX7_readsWord_140 : decode cX7_readsWord 140 = .ok (.iload_n 1, 1) := by decide +kernel
theorem dX7_readsWord_141 : decode cX7_readsWord 141 = .ok (.bipush 100, 2) := by decide +kernel
theorem dX7_readsWord_143 : decode cX7_readsWord 143 = .ok (.if_icmp .ne 17, 3) := by decide +kernel
theorem dX7_readsWord_146 : decode cX7_readsWord 146 = .ok (.iload_n 3, 1) := by decide +kernel
theorem dX7_readsWord_147 : decode cX7_readsWord 147 = .ok (.invokestatic 100, 3) := by decide +kernel
theorem dX7_readsWord_150 : decode cX7_readsWord 150 = .ok (.ifCond .ne 10, 3) := by decide +kernel
theorem dX7_readsWord_153 : decode cX7_readsWord 153 = .ok (.aload_n 0, 1) := by decide +kernel
theorem dX7_readsWord_154 : decode cX7_readsWord 154 = .ok (.iload_n 2, 1) := by decide +kernel
theorem dX7_readsWord_155 : decode cX7_readsWord 155 = .ok (.putfield 86, 3) := by decide +kernel
theorem dX7_readsWord_158 : decode cX7_readsWord 158 = .ok (.iconst 0, 1) := by decide +kernel
theorem dX7_readsWord_159 : decode cX7_readsWord 159 = .ok (.ireturn, 1) := by decide +kernel
theorem dX7_readsWord_160 : decode cX7_readsWord 160 = .ok (.aload_n 0, 1) := by decide +kernel
theorem dX7_readsWord_161 : decode cX7_readsWord 161 = .ok (.dup, 1) := by decide +kernel
theorem dX7_readsWord_162 : decode cX7_readsWord 162 = .ok (.getfield 104, 3) := by decide +kernel
theorem dX7_readsWord_165 : decode cX7_readsWord 165 = .ok (.iload_n 1, 1) := by decide +kernel
theorem dX7_readsWord_166 : decode cX7_readsWord 166 = .ok (.bipush 104, 2) := by decide +kernel
theorem dX7_readsWord_168 : decode cX7_readsWord 168 = .ok (.if_icmp .ne 7, 3) := by decide +kernel
theorem dX7_readsWord_171 : decode cX7_readsWord 171 = .ok (.iconst 1, 1) := by decide +kernel
theorem dX7_readsWord_172 : decode cX7_readsWord 172 = .ok (.goto 4, 3) := by decide +kernel
theorem dX7_readsWord_175 : decode cX7_readsWord 175 = .ok (.iconst 0, 1) := by decide +kernel
theorem dX7_readsWord_176 : decode cX7_readsWord 176 = .ok (.iadd, 1) := by decide +kernel
theorem dX7_readsWord_177 : decode cX7_readsWord 177 = .ok (.putfield 104, 3) := by decide +kernel
theorem dX7_readsWord_180 : decode cX7_readsWord 180 = .ok (.aload_n 0, 1) := by decide +kernel
theorem dX7_readsWord_181 : decode cX7_readsWord 181 = .ok (.iload_n 1, 1) := by decide +kernel
theorem dX7_readsWord_182 : decode cX7_readsWord 182 = .ok (.bipush 104, 2) := by decide +kernel
theorem dX7_readsWord_184 : decode cX7_readsWord 184 = .ok (.if_icmp .ne 7, 3) := by decide +kernel
theorem dX7_readsWord_187 : decode cX7_readsWord 187 = .ok (.iconst 0, 1) := by decide +kernel
theorem dX7_readsWord_188 : decode cX7_readsWord 188 = .ok (.goto 14, 3) := by decide +kernel
theorem dX7_readsWord_191 : decode cX7_readsWord 191 = .ok (.iload_n 1, 1) := by decide +kernel
theorem dX7_readsWord_192 : decode cX7_readsWord 192 = .ok (.bipush 99, 2) := by decide +kernel
theorem dX7_readsWord_194 : decode cX7_readsWord 194 = .ok (.if_icmp .ne 7, 3) := by decide +kernel
theorem dX7_readsWord_197 : decode cX7_readsWord 197 = .ok (.iconst 1, 1) := by decide +kernel
theorem dX7_readsWord_198 : decode cX7_readsWord 198 = .ok (.goto 4, 3) := by decide +kernel
theorem dX7_readsWord_201 : decode cX7_readsWord 201 = .ok (.iconst 2, 1) := by decide +kernel
theorem dX7_readsWord_202 : decode cX7_readsWord 202 = .ok (.iload_n 3, 1) := by decide +kernel
theorem dX7_readsWord_203 : decode cX7_readsWord 203 = .ok (.invokevirtual 107, 3) := by decide +kernel
theorem dX7_readsWord_206 : decode cX7_readsWord 206 = .ok (.iconst 1, 1) := by decide +kernel
theorem dX7_readsWord_207 : decode cX7_readsWord 207 = .ok (.ireturn, 1) := by decide +kernel
set_option maxRecDepth 20000 in
theorem ggX7_readsOpening_X7_see : GoodIn wsX7_readsOpening wsX7_see := goodIn_r _ [12, 1, 13, 14, 29, 30, 31, 32, 33, 34, 35, 36, 37, 38, 39, 40, 41, 42, 43, 44, 45, 46, 47, 48, 49, 50, 51, 52, 53, 54, 55, 56, 57, 58, 59, 60, 61, 62, 63, 64, 65, 66, 67, 68, 69, 70, 71, 72] (by decide +kernel) (by decide +kernel)
set_option maxRecDepth 20000 in
theorem gX7_readsOpening_X7_see : GoodIn wsX7_readsOpening (wsV RX7 89 RX7 yX7_see wsX7_see) := goodIn_app (goodIn_of _ (by decide +kernel)) ggX7_readsOpening_X7_see
set_option maxRecDepth 20000 in
theorem ggX7_readsOpening_X7_digit : GoodIn wsX7_readsOpening wsX7_digit := goodIn_r _ [17] (by decide +kernel) (by decide +kernel)
set_option maxRecDepth 20000 in
theorem gX7_readsOpening_X7_digit : GoodIn wsX7_readsOpening (va_wsS RX7 96 yX7_digit wsX7_digit) := goodIn_app (goodIn_of _ (by decide +kernel)) ggX7_readsOpening_X7_digit
set_option maxRecDepth 20000 in
theorem ggX7_readsOpening_X7_skip : GoodIn wsX7_readsOpening wsX7_skip := goodIn_r _ [21, 1, 8, 9, 10, 11, 12, 13, 14, 29, 30, 31, 32, 33, 34, 35, 36, 37, 38, 39, 40, 41, 42, 43, 44, 45, 46, 47, 48, 49, 50, 51, 52, 53, 54, 55, 56, 57, 58, 59, 60, 61, 62, 63, 64, 65, 66, 67, 68, 69, 70, 71, 72] (by decide +kernel) (by decide +kernel)
set_option maxRecDepth 20000 in
theorem gX7_readsOpening_X7_skip : GoodIn wsX7_readsOpening (wsV RX7 111 RX7 yX7_skip wsX7_skip) := goodIn_app (goodIn_of _ (by decide +kernel)) ggX7_readsOpening_X7_skip
set_option maxRecDepth 20000 in
theorem ggX7_readsOpening_X7_item : GoodIn wsX7_readsOpening wsX7_item := goodIn_r _ [25, 26, 4, 27, 28, 29, 30, 31, 32, 33, 34, 35, 36, 37, 38, 39, 40, 41, 42, 43, 44, 45, 46, 47, 48, 49, 50, 51, 52, 53, 54, 55, 56, 57, 58, 59, 60, 61, 62, 63, 64, 65, 66, 67, 68, 69, 70, 71, 72] (by decide +kernel) (by decide +kernel)
set_option maxRecDepth 20000 in
theorem gX7_readsOpening_X7_item : GoodIn wsX7_readsOpening (wsV RX7 107 RX7 yX7_item wsX7_item) := goodIn_app (goodIn_of _ (by decide +kernel)) ggX7_readsOpening_X7_item
theorem dX7_readsOpening_0 : decode cX7_readsOpening 0 = .ok (.iconst 2, 1) := by decide +kernel
theorem dX7_readsOpening_1 : decode cX7_readsOpening 1 = .ok (.istore_n 2, 1) := by decide +kernel
theorem dX7_readsOpening_2 : decode cX7_readsOpening 2 = .ok (.iload_n 1, 1) := by decide +kernel
theorem dX7_readsOpening_3 : decode cX7_readsOpening 3 = .ok (.bipush 114, 2) := by decide +kernel
theorem dX7_readsOpening_5 : decode cX7_readsOpening 5 = .ok (.if_icmp .ne 100, 3) := by decide +kernel
theorem dX7_readsOpening_8 : decode cX7_readsOpening 8 = .ok (.aload_n 0, 1) := by decide +kernel
theorem dX7_readsOpening_9 : decode cX7_readsOpening 9 = .ok (.getfield 86, 3) := by decide +kernel
theorem dX7_readsOpening_12 : decode cX7_readsOpening 12 = .ok (.istore_n 3, 1) := by decide +kernel
theorem dX7_readsOpening_13 : decode cX7_readsOpening 13 = .ok (.iconst 0, 1) := by decide +kernel
theorem dX7_readsOpening_14 : decode cX7_readsOpening 14 = .ok (.istore_n 2, 1) := by decide +kernel
theorem dX7_readsOpening_15 : decode cX7_readsOpening 15 = .ok (.aload_n 0, 1) := by decide +kernel
theorem dX7_readsOpening_16 : decode cX7_readsOpening 16 = .ok (.getfield 86, 3) := by decide +kernel
theorem dX7_readsOpening_19 : decode cX7_readsOpening 19 = .ok (.iload_n 3, 1) := by decide +kernel
theorem dX7_readsOpening_20 : decode cX7_readsOpening 20 = .ok (.isub, 1) := by decide +kernel
theorem dX7_readsOpening_21 : decode cX7_readsOpening 21 = .ok (.iconst 4, 1) := by decide +kernel
theorem dX7_readsOpening_22 : decode cX7_readsOpening 22 = .ok (.if_icmp .ge 41, 3) := by decide +kernel
theorem dX7_readsOpening_25 : decode cX7_readsOpening 25 = .ok (.aload_n 0, 1) := by decide +kernel
theorem dX7_readsOpening_26 : decode cX7_readsOpening 26 = .ok (.invokevirtual 89, 3) := by decide +kernel
theorem dX7_readsOpening_29 : decode cX7_readsOpening 29 = .ok (.invokestatic 96, 3) := by decide +kernel
theorem dX7_readsOpening_32 : decode cX7_readsOpening 32 = .ok (.bipush 10, 2) := by decide +kernel
theorem dX7_readsOpening_34 : decode cX7_readsOpening 34 = .ok (.if_icmp .ge 29, 3) := by decide +kernel
theorem dX7_readsOpening_37 : decode cX7_readsOpening 37 = .ok (.bipush 10, 2) := by decide +kernel
theorem dX7_readsOpening_39 : decode cX7_readsOpening 39 = .ok (.iload_n 2, 1) := by decide +kernel
theorem dX7_readsOpening_40 : decode cX7_readsOpening 40 = .ok (.imul, 1) := by decide +kernel
theorem dX7_readsOpening_41 : decode cX7_readsOpening 41 = .ok (.aload_n 0, 1) := by decide +kernel
theorem dX7_readsOpening_42 : decode cX7_readsOpening 42 = .ok (.invokevirtual 89, 3) := by decide +kernel
theorem dX7_readsOpening_45 : decode cX7_readsOpening 45 = .ok (.invokestatic 96, 3) := by decide +kernel
theorem dX7_readsOpening_48 : decode cX7_readsOpening 48 = .ok (.iadd, 1) := by decide +kernel
theorem dX7_readsOpening_49 : decode cX7_readsOpening 49 = .ok (.istore_n 2, 1) := by decide +kernel
theorem dX7_readsOpening_50 : decode cX7_readsOpening 50 = .ok (.aload_n 0, 1) := by decide +kernel
theorem dX7_readsOpening_51 : decode cX7_readsOpening 51 = .ok (.dup, 1) := by decide +kernel
theorem dX7_readsOpening_52 : decode cX7_readsOpening 52 = .ok (.getfield 86, 3) := by decide +kernel
theorem dX7_readsOpening_55 : decode cX7_readsOpening 55 = .ok (.iconst 1, 1) := by decide +kernel
theorem dX7_readsOpening_56 : decode cX7_readsOpening 56 = .ok (.iadd, 1) := by decide +kernel
theorem dX7_readsOpening_57 : decode cX7_readsOpening 57 = .ok (.putfield 86, 3) := by decide +kernel
theorem dX7_readsOpening_60 : decode cX7_readsOpening 60 = .ok (.goto (-45), 3) := by decide +kernel
theorem dX7_readsOpening_63 : decode cX7_readsOpening 63 = .ok (.iload_n 2, 1) := by decide +kernel
theorem dX7_readsOpening_64 : decode cX7_readsOpening 64 = .ok (.ifCond .eq 15, 3) := by decide +kernel
theorem dX7_readsOpening_67 : decode cX7_readsOpening 67 = .ok (.aload_n 0, 1) := by decide +kernel
theorem dX7_readsOpening_68 : decode cX7_readsOpening 68 = .ok (.invokevirtual 89, 3) := by decide +kernel
theorem dX7_readsOpening_71 : decode cX7_readsOpening 71 = .ok (.invokestatic 96, 3) := by decide +kernel
theorem dX7_readsOpening_74 : decode cX7_readsOpening 74 = .ok (.bipush 10, 2) := by decide +kernel
theorem dX7_readsOpening_76 : decode cX7_readsOpening 76 = .ok (.if_icmp .ge 29, 3) := by decide +kernel
theorem dX7_readsOpening_79 : decode cX7_readsOpening 79 = .ok (.aload_n 0, 1) := by decide +kernel
theorem dX7_readsOpening_80 : decode cX7_readsOpening 80 = .ok (.iload_n 2, 1) := by decide +kernel
theorem dX7_readsOpening_81 : decode cX7_readsOpening 81 = .ok (.ifCond .ne 15, 3) := by decide +kernel
theorem dX7_readsOpening_84 : decode cX7_readsOpening 84 = .ok (.aload_n 0, 1) := by decide +kernel
theorem dX7_readsOpening_85 : decode cX7_readsOpening 85 = .ok (.getfield 86, 3) := by decide +kernel
theorem dX7_readsOpening_88 : decode cX7_readsOpening 88 = .ok (.iload_n 3, 1) := by decide +kernel
theorem dX7_readsOpening_89 : decode cX7_readsOpening 89 = .ok (.if_icmp .le 7, 3) := by decide +kernel
theorem dX7_readsOpening_92 : decode cX7_readsOpening 92 = .ok (.iload_n 3, 1) := by decide +kernel
theorem dX7_readsOpening_93 : decode cX7_readsOpening 93 = .ok (.goto 7, 3) := by decide +kernel
theorem dX7_readsOpening_96 : decode cX7_readsOpening 96 = .ok (.aload_n 0, 1) := by decide +kernel
theorem dX7_readsOpening_97 : decode cX7_readsOpening 97 = .ok (.getfield 86, 3) := by decide +kernel
theorem dX7_readsOpening_100 : decode cX7_readsOpening 100 = .ok (.putfield 86, 3) := by decide +kernel
theorem dX7_readsOpening_103 : decode cX7_readsOpening 103 = .ok (.iconst 0, 1) := by decide +kernel
theorem dX7_readsOpening_104 : decode cX7_readsOpening 104 = .ok (.ireturn, 1) := by decide +kernel
theorem dX7_readsOpening_105 : decode cX7_readsOpening 105 = .ok (.aload_n 0, 1) := by decide +kernel
theorem dX7_readsOpening_106 : decode cX7_readsOpening 106 = .ok (.invokevirtual 111, 3) := by decide +kernel
theorem dX7_readsOpening_109 : decode cX7_readsOpening 109 = .ok (.aload_n 0, 1) := by decide +kernel
theorem dX7_readsOpening_110 : decode cX7_readsOpening 110 = .ok (.invokevirtual 89, 3) := by decide +kernel
theorem dX7_readsOpening_113 : decode cX7_readsOpening 113 = .ok (.bipush 40, 2) := by decide +kernel
theorem dX7_readsOpening_115 : decode cX7_readsOpening 115 = .ok (.if_icmp .ne 12, 3) := by decide +kernel
theorem dX7_readsOpening_118 : decode cX7_readsOpening 118 = .ok (.aload_n 0, 1) := by decide +kernel
theorem dX7_readsOpening_119 : decode cX7_readsOpening 119 = .ok (.getfield 114, 3) := by decide +kernel
theorem dX7_readsOpening_122 : decode cX7_readsOpening 122 = .ok (.bipush 6, 2) := by decide +kernel
theorem dX7_readsOpening_124 : decode cX7_readsOpening 124 = .ok (.if_icmp .ne 5, 3) := by decide +kernel
theorem dX7_readsOpening_127 : decode cX7_readsOpening 127 = .ok (.iconst 0, 1) := by decide +kernel
theorem dX7_readsOpening_128 : decode cX7_readsOpening 128 = .ok (.ireturn, 1) := by decide +kernel
theorem dX7_readsOpening_129 : decode cX7_readsOpening 129 = .ok (.aload_n 0, 1) := by decide +kernel
theorem dX7_readsOpening_130 : decode cX7_readsOpening 130 = .ok (.dup, 1) := by decide +kernel
theorem dX7_readsOpening_131 : decode cX7_readsOpening 131 = .ok (.getfield 86, 3) := by decide +kernel
theorem dX7_readsOpening_134 : decode cX7_readsOpening 134 = .ok (.iconst 1, 1) := by decide +kernel
theorem dX7_readsOpening_135 : decode cX7_readsOpening 135 = .ok (.iadd, 1) := by decide +kernel
theorem dX7_readsOpening_136 : decode cX7_readsOpening 136 = .ok (.putfield 86, 3) := by decide +kernel
theorem dX7_readsOpening_139 : decode cX7_readsOpening 139 = .ok (.aload_n 0, 1) := by decide +kernel
theorem dX7_readsOpening_140 : decode cX7_readsOpening 140 = .ok (.getfield 41, 3) := by decide +kernel
theorem dX7_readsOpening_143 : decode cX7_readsOpening 143 = .ok (.aload_n 0, 1) := by decide +kernel
theorem dX7_readsOpening_144 : decode cX7_readsOpening 144 = .ok (.getfield 114, 3) := by decide +kernel
theorem dX7_readsOpening_147 : decode cX7_readsOpening 147 = .ok (.aload_n 0, 1) := by decide +kernel
theorem dX7_readsOpening_148 : decode cX7_readsOpening 148 = .ok (.getfield 93, 3) := by decide +kernel
theorem dX7_readsOpening_151 : decode cX7_readsOpening 151 = .ok (.iastore, 1) := by decide +kernel
theorem dX7_readsOpening_152 : decode cX7_readsOpening 152 = .ok (.aload_n 0, 1) := by decide +kernel
theorem dX7_readsOpening_153 : decode cX7_readsOpening 153 = .ok (.getfield 44, 3) := by decide +kernel
theorem dX7_readsOpening_156 : decode cX7_readsOpening 156 = .ok (.aload_n 0, 1) := by decide +kernel
theorem dX7_readsOpening_157 : decode cX7_readsOpening 157 = .ok (.getfield 114, 3) := by decide +kernel
theorem dX7_readsOpening_160 : decode cX7_readsOpening 160 = .ok (.aload_n 0, 1) := by decide +kernel
theorem dX7_readsOpening_161 : decode cX7_readsOpening 161 = .ok (.getfield 104, 3) := by decide +kernel
theorem dX7_readsOpening_164 : decode cX7_readsOpening 164 = .ok (.iastore, 1) := by decide +kernel
theorem dX7_readsOpening_165 : decode cX7_readsOpening 165 = .ok (.aload_n 0, 1) := by decide +kernel
theorem dX7_readsOpening_166 : decode cX7_readsOpening 166 = .ok (.dup, 1) := by decide +kernel
theorem dX7_readsOpening_167 : decode cX7_readsOpening 167 = .ok (.getfield 114, 3) := by decide +kernel
theorem dX7_readsOpening_170 : decode cX7_readsOpening 170 = .ok (.iconst 1, 1) := by decide +kernel
theorem dX7_readsOpening_171 : decode cX7_readsOpening 171 = .ok (.iadd, 1) := by decide +kernel
theorem dX7_readsOpening_172 : decode cX7_readsOpening 172 = .ok (.putfield 114, 3) := by decide +kernel
theorem dX7_readsOpening_175 : decode cX7_readsOpening 175 = .ok (.aload_n 0, 1) := by decide +kernel
theorem dX7_readsOpening_176 : decode cX7_readsOpening 176 = .ok (.iload_n 1, 1) := by decide +kernel
theorem dX7_readsOpening_177 : decode cX7_readsOpening 177 = .ok (.bipush 114, 2) := by decide +kernel
theorem dX7_readsOpening_179 : decode cX7_readsOpening 179 = .ok (.if_icmp .ne 7, 3) := by decide +kernel
theorem dX7_readsOpening_182 : decode cX7_readsOpening 182 = .ok (.iconst 3, 1) := by decide +kernel
theorem dX7_readsOpening_183 : decode cX7_readsOpening 183 = .ok (.goto 4, 3) := by decide +kernel
theorem dX7_readsOpening_186 : decode cX7_readsOpening 186 = .ok (.iconst 4, 1) := by decide +kernel
theorem dX7_readsOpening_187 : decode cX7_readsOpening 187 = .ok (.iload_n 2, 1) := by decide +kernel
theorem dX7_readsOpening_188 : decode cX7_readsOpening 188 = .ok (.invokevirtual 107, 3) := by decide +kernel
theorem dX7_readsOpening_191 : decode cX7_readsOpening 191 = .ok (.aload_n 0, 1) := by decide +kernel
theorem dX7_readsOpening_192 : decode cX7_readsOpening 192 = .ok (.iconst 1, 1) := by decide +kernel
theorem dX7_readsOpening_193 : decode cX7_readsOpening 193 = .ok (.putfield 117, 3) := by decide +kernel
theorem dX7_readsOpening_196 : decode cX7_readsOpening 196 = .ok (.iconst 1, 1) := by decide +kernel
theorem dX7_readsOpening_197 : decode cX7_readsOpening 197 = .ok (.ireturn, 1) := by decide +kernel
set_option maxRecDepth 20000 in
theorem ggX7_reads_X7_skip : GoodIn wsX7_reads wsX7_skip := goodIn_r _ [14, 1, 15, 16, 17, 13, 18, 6, 19, 40, 41, 42, 43, 44, 45, 46, 47, 48, 49, 50, 51, 52, 53, 54, 55, 56, 57, 58, 59, 60, 61, 62, 63, 64, 65, 66, 67, 68, 69, 70, 71, 72, 73, 74, 75, 76, 77, 78, 79, 80, 81, 82, 83] (by decide +kernel) (by decide +kernel)
set_option maxRecDepth 20000 in
theorem gX7_reads_X7_skip : GoodIn wsX7_reads (wsV RX7 111 RX7 yX7_skip wsX7_skip) := goodIn_app (goodIn_of _ (by decide +kernel)) ggX7_reads_X7_skip
set_option maxRecDepth 20000 in
theorem ggX7_reads_X7_see : GoodIn wsX7_reads wsX7_see := goodIn_r _ [18, 1, 6, 19, 40, 41, 42, 43, 44, 45, 46, 47, 48, 49, 50, 51, 52, 53, 54, 55, 56, 57, 58, 59, 60, 61, 62, 63, 64, 65, 66, 67, 68, 69, 70, 71, 72, 73, 74, 75, 76, 77, 78, 79, 80, 81, 82, 83] (by decide +kernel) (by decide +kernel)
set_option maxRecDepth 20000 in
theorem gX7_reads_X7_see : GoodIn wsX7_reads (wsV RX7 89 RX7 yX7_see wsX7_see) := goodIn_app (goodIn_of _ (by decide +kernel)) ggX7_reads_X7_see
set_option maxRecDepth 20000 in
theorem ggX7_reads_X7_readsWord : GoodIn wsX7_reads wsX7_readsWord := goodIn_r _ [23, 1, 4, 15, 16, 17, 13, 18, 6, 19, 24, 25, 26, 27, 28, 29, 30, 31, 32, 33, 34, 2, 35, 8, 40, 41, 42, 43, 44, 45, 46, 47, 48, 49, 50, 51, 52, 53, 54, 55, 56, 57, 58, 59, 60, 61, 62, 63, 64, 65, 66, 67, 68, 69, 70, 71, 72, 73, 74, 75, 76, 77, 78, 79, 80, 81, 82, 83] (by decide +kernel) (by decide +kernel)
set_option maxRecDepth 20000 in
theorem gX7_reads_X7_readsWord : GoodIn wsX7_reads (wsV RX7 120 RX7 yX7_readsWord wsX7_readsWord) := goodIn_app (goodIn_of _ (by decide +kernel)) ggX7_reads_X7_readsWord
set_option maxRecDepth 20000 in
theorem ggX7_reads_X7_readsOpening : GoodIn wsX7_reads wsX7_readsOpening := goodIn_r _ [39, 1, 3, 9, 2, 7, 4, 5, 15, 16, 17, 13, 18, 6, 19, 24, 25, 26, 10, 11, 12, 14, 30, 31, 32, 33, 34, 35, 8, 40, 41, 42, 43, 44, 45, 46, 47, 48, 49, 50, 51, 52, 53, 54, 55, 56, 57, 58, 59, 60, 61, 62, 63, 64, 65, 66, 67, 68, 69, 70, 71, 72, 73, 74, 75, 76, 77, 78, 79, 80, 81, 82, 83] (by decide +kernel) (by decide +kernel)
set_option maxRecDepth 20000 in
theorem gX7_reads_X7_readsOpening : GoodIn wsX7_reads (wsV RX7 123 RX7 yX7_readsOpening wsX7_readsOpening) := goodIn_app (goodIn_of _ (by decide +kernel)) ggX7_reads_X7_readsOpening
theorem dX7_reads_0 : decode cX7_reads 0 = .ok (.aload_n 0, 1) := by decide +kernel
theorem dX7_reads_1 : decode cX7_reads 1 = .ok (.iconst 0, 1) := by decide +kernel
theorem dX7_reads_2 : decode cX7_reads 2 = .ok (.putfield 86, 3) := by decide +kernel
theorem dX7_reads_5 : decode cX7_reads 5 = .ok (.aload_n 0, 1) := by decide +kernel
theorem dX7_reads_6 : decode cX7_reads 6 = .ok (.iconst 0, 1) := by decide +kernel
theorem dX7_reads_7 : decode cX7_reads 7 = .ok (.putfield 93, 3) := by decide +kernel
theorem dX7_reads_10 : decode cX7_reads 10 = .ok (.aload_n 0, 1) := by decide +kernel
theorem dX7_reads_11 : decode cX7_reads 11 = .ok (.iconst 0, 1) := by decide +kernel
theorem dX7_reads_12 : decode cX7_reads 12 = .ok (.putfield 114, 3) := by decide +kernel
theorem dX7_reads_15 : decode cX7_reads 15 = .ok (.aload_n 0, 1) := by decide +kernel
theorem dX7_reads_16 : decode cX7_reads 16 = .ok (.iconst 0, 1) := by decide +kernel
theorem dX7_reads_17 : decode cX7_reads 17 = .ok (.putfield 104, 3) := by decide +kernel
theorem dX7_reads_20 : decode cX7_reads 20 = .ok (.aload_n 0, 1) := by decide +kernel
theorem dX7_reads_21 : decode cX7_reads 21 = .ok (.iconst 1, 1) := by decide +kernel
theorem dX7_reads_22 : decode cX7_reads 22 = .ok (.putfield 117, 3) := by decide +kernel
theorem dX7_reads_25 : decode cX7_reads 25 = .ok (.aload_n 0, 1) := by decide +kernel
theorem dX7_reads_26 : decode cX7_reads 26 = .ok (.invokevirtual 111, 3) := by decide +kernel
theorem dX7_reads_29 : decode cX7_reads 29 = .ok (.aload_n 0, 1) := by decide +kernel
theorem dX7_reads_30 : decode cX7_reads 30 = .ok (.getfield 86, 3) := by decide +kernel
theorem dX7_reads_33 : decode cX7_reads 33 = .ok (.aload_n 0, 1) := by decide +kernel
theorem dX7_reads_34 : decode cX7_reads 34 = .ok (.getfield 77, 3) := by decide +kernel
theorem dX7_reads_37 : decode cX7_reads 37 = .ok (.if_icmp .ge 199, 3) := by decide +kernel
theorem dX7_reads_40 : decode cX7_reads 40 = .ok (.aload_n 0, 1) := by decide +kernel
theorem dX7_reads_41 : decode cX7_reads 41 = .ok (.invokevirtual 89, 3) := by decide +kernel
theorem dX7_reads_44 : decode cX7_reads 44 = .ok (.istore_n 1, 1) := by decide +kernel
theorem dX7_reads_45 : decode cX7_reads 45 = .ok (.iload_n 1, 1) := by decide +kernel
theorem dX7_reads_46 : decode cX7_reads 46 = .ok (.bipush 41, 2) := by decide +kernel
theorem dX7_reads_48 : decode cX7_reads 48 = .ok (.if_icmp .ne 68, 3) := by decide +kernel
theorem dX7_reads_51 : decode cX7_reads 51 = .ok (.aload_n 0, 1) := by decide +kernel
theorem dX7_reads_52 : decode cX7_reads 52 = .ok (.getfield 114, 3) := by decide +kernel
theorem dX7_reads_55 : decode cX7_reads 55 = .ok (.ifCond .eq 28, 3) := by decide +kernel
theorem dX7_reads_58 : decode cX7_reads 58 = .ok (.aload_n 0, 1) := by decide +kernel
theorem dX7_reads_59 : decode cX7_reads 59 = .ok (.getfield 117, 3) := by decide +kernel
theorem dX7_reads_62 : decode cX7_reads 62 = .ok (.ifCond .ne 21, 3) := by decide +kernel
theorem dX7_reads_65 : decode cX7_reads 65 = .ok (.aload_n 0, 1) := by decide +kernel
theorem dX7_reads_66 : decode cX7_reads 66 = .ok (.getfield 104, 3) := by decide +kernel
theorem dX7_reads_69 : decode cX7_reads 69 = .ok (.aload_n 0, 1) := by decide +kernel
theorem dX7_reads_70 : decode cX7_reads 70 = .ok (.getfield 44, 3) := by decide +kernel
theorem dX7_reads_73 : decode cX7_reads 73 = .ok (.aload_n 0, 1) := by decide +kernel
theorem dX7_reads_74 : decode cX7_reads 74 = .ok (.getfield 114, 3) := by decide +kernel
theorem dX7_reads_77 : decode cX7_reads 77 = .ok (.iconst 1, 1) := by decide +kernel
theorem dX7_reads_78 : decode cX7_reads 78 = .ok (.isub, 1) := by decide +kernel
theorem dX7_reads_79 : decode cX7_reads 79 = .ok (.iaload, 1) := by decide +kernel
theorem dX7_reads_80 : decode cX7_reads 80 = .ok (.if_icmp .ne 5, 3) := by decide +kernel
theorem dX7_reads_83 : decode cX7_reads 83 = .ok (.iconst 0, 1) := by decide +kernel
theorem dX7_reads_84 : decode cX7_reads 84 = .ok (.ireturn, 1) := by decide +kernel
theorem dX7_reads_85 : decode cX7_reads 85 = .ok (.aload_n 0, 1) := by decide +kernel
theorem dX7_reads_86 : decode cX7_reads 86 = .ok (.dup, 1) := by decide +kernel
theorem dX7_reads_87 : decode cX7_reads 87 = .ok (.getfield 114, 3) := by decide +kernel
theorem dX7_reads_90 : decode cX7_reads 90 = .ok (.iconst 1, 1) := by decide +kernel
theorem dX7_reads_91 : decode cX7_reads 91 = .ok (.isub, 1) := by decide +kernel
theorem dX7_reads_92 : decode cX7_reads 92 = .ok (.putfield 114, 3) := by decide +kernel
theorem dX7_reads_95 : decode cX7_reads 95 = .ok (.aload_n 0, 1) := by decide +kernel
theorem dX7_reads_96 : decode cX7_reads 96 = .ok (.getfield 38, 3) := by decide +kernel
theorem dX7_reads_99 : decode cX7_reads 99 = .ok (.aload_n 0, 1) := by decide +kernel
theorem dX7_reads_100 : decode cX7_reads 100 = .ok (.getfield 41, 3) := by decide +kernel
theorem dX7_reads_103 : decode cX7_reads 103 = .ok (.aload_n 0, 1) := by decide +kernel
theorem dX7_reads_104 : decode cX7_reads 104 = .ok (.getfield 114, 3) := by decide +kernel
theorem dX7_reads_107 : decode cX7_reads 107 = .ok (.iaload, 1) := by decide +kernel
theorem dX7_reads_108 : decode cX7_reads 108 = .ok (.aload_n 0, 1) := by decide +kernel
theorem dX7_reads_109 : decode cX7_reads 109 = .ok (.getfield 93, 3) := by decide +kernel
theorem dX7_reads_112 : decode cX7_reads 112 = .ok (.iastore, 1) := by decide +kernel
theorem dX7_reads_113 : decode cX7_reads 113 = .ok (.goto 106, 3) := by decide +kernel
theorem dX7_reads_116 : decode cX7_reads 116 = .ok (.iload_n 1, 1) := by decide +kernel
theorem dX7_reads_117 : decode cX7_reads 117 = .ok (.bipush 104, 2) := by decide +kernel
theorem dX7_reads_119 : decode cX7_reads 119 = .ok (.if_icmp .eq 15, 3) := by decide +kernel
theorem dX7_reads_122 : decode cX7_reads 122 = .ok (.iload_n 1, 1) := by decide +kernel
theorem dX7_reads_123 : decode cX7_reads 123 = .ok (.bipush 99, 2) := by decide +kernel
theorem dX7_reads_125 : decode cX7_reads 125 = .ok (.if_icmp .eq 9, 3) := by decide +kernel
theorem dX7_reads_128 : decode cX7_reads 128 = .ok (.iload_n 1, 1) := by decide +kernel
theorem dX7_reads_129 : decode cX7_reads 129 = .ok (.bipush 100, 2) := by decide +kernel
theorem dX7_reads_131 : decode cX7_reads 131 = .ok (.if_icmp .ne 41, 3) := by decide +kernel
theorem dX7_reads_134 : decode cX7_reads 134 = .ok (.aload_n 0, 1) := by decide +kernel
theorem dX7_reads_135 : decode cX7_reads 135 = .ok (.dup, 1) := by decide +kernel
theorem dX7_reads_136 : decode cX7_reads 136 = .ok (.getfield 86, 3) := by decide +kernel
theorem dX7_reads_139 : decode cX7_reads 139 = .ok (.iconst 1, 1) := by decide +kernel
theorem dX7_reads_140 : decode cX7_reads 140 = .ok (.iadd, 1) := by decide +kernel
theorem dX7_reads_141 : decode cX7_reads 141 = .ok (.putfield 86, 3) := by decide +kernel
theorem dX7_reads_144 : decode cX7_reads 144 = .ok (.aload_n 0, 1) := by decide +kernel
theorem dX7_reads_145 : decode cX7_reads 145 = .ok (.iload_n 1, 1) := by decide +kernel
theorem dX7_reads_146 : decode cX7_reads 146 = .ok (.invokevirtual 120, 3) := by decide +kernel
theorem dX7_reads_149 : decode cX7_reads 149 = .ok (.ifCond .ne 5, 3) := by decide +kernel
theorem dX7_reads_152 : decode cX7_reads 152 = .ok (.iconst 0, 1) := by decide +kernel
theorem dX7_reads_153 : decode cX7_reads 153 = .ok (.ireturn, 1) := by decide +kernel
theorem dX7_reads_154 : decode cX7_reads 154 = .ok (.aload_n 0, 1) := by decide +kernel
theorem dX7_reads_155 : decode cX7_reads 155 = .ok (.dup, 1) := by decide +kernel
theorem dX7_reads_156 : decode cX7_reads 156 = .ok (.getfield 86, 3) := by decide +kernel
theorem dX7_reads_159 : decode cX7_reads 159 = .ok (.iconst 1, 1) := by decide +kernel
theorem dX7_reads_160 : decode cX7_reads 160 = .ok (.isub, 1) := by decide +kernel
theorem dX7_reads_161 : decode cX7_reads 161 = .ok (.putfield 86, 3) := by decide +kernel
theorem dX7_reads_164 : decode cX7_reads 164 = .ok (.aload_n 0, 1) := by decide +kernel
theorem dX7_reads_165 : decode cX7_reads 165 = .ok (.iconst 0, 1) := by decide +kernel
theorem dX7_reads_166 : decode cX7_reads 166 = .ok (.putfield 117, 3) := by decide +kernel
theorem dX7_reads_169 : decode cX7_reads 169 = .ok (.goto 50, 3) := by decide +kernel
theorem dX7_reads_172 : decode cX7_reads 172 = .ok (.iload_n 1, 1) := by decide +kernel
theorem dX7_reads_173 : decode cX7_reads 173 = .ok (.bipush 114, 2) := by decide +kernel
theorem dX7_reads_175 : decode cX7_reads 175 = .ok (.if_icmp .eq 9, 3) := by decide +kernel
theorem dX7_reads_178 : decode cX7_reads 178 = .ok (.iload_n 1, 1) := by decide +kernel
theorem dX7_reads_179 : decode cX7_reads 179 = .ok (.bipush 109, 2) := by decide +kernel
theorem dX7_reads_181 : decode cX7_reads 181 = .ok (.if_icmp .ne 36, 3) := by decide +kernel
theorem dX7_reads_184 : decode cX7_reads 184 = .ok (.aload_n 0, 1) := by decide +kernel
theorem dX7_reads_185 : decode cX7_reads 185 = .ok (.dup, 1) := by decide +kernel
theorem dX7_reads_186 : decode cX7_reads 186 = .ok (.getfield 86, 3) := by decide +kernel
theorem dX7_reads_189 : decode cX7_reads 189 = .ok (.iconst 1, 1) := by decide +kernel
theorem dX7_reads_190 : decode cX7_reads 190 = .ok (.iadd, 1) := by decide +kernel
theorem dX7_reads_191 : decode cX7_reads 191 = .ok (.putfield 86, 3) := by decide +kernel
theorem dX7_reads_194 : decode cX7_reads 194 = .ok (.aload_n 0, 1) := by decide +kernel
theorem dX7_reads_195 : decode cX7_reads 195 = .ok (.iload_n 1, 1) := by decide +kernel
theorem dX7_reads_196 : decode cX7_reads 196 = .ok (.invokevirtual 123, 3) := by decide +kernel
theorem dX7_reads_199 : decode cX7_reads 199 = .ok (.ifCond .ne 5, 3) := by decide +kernel
theorem dX7_reads_202 : decode cX7_reads 202 = .ok (.iconst 0, 1) := by decide +kernel
theorem dX7_reads_203 : decode cX7_reads 203 = .ok (.ireturn, 1) := by decide +kernel
theorem dX7_reads_204 : decode cX7_reads 204 = .ok (.aload_n 0, 1) := by decide +kernel
theorem dX7_reads_205 : decode cX7_reads 205 = .ok (.dup, 1) := by decide +kernel
theorem dX7_reads_206 : decode cX7_reads 206 = .ok (.getfield 86, 3) := by decide +kernel
theorem dX7_reads_209 : decode cX7_reads 209 = .ok (.iconst 1, 1) := by decide +kernel
theorem dX7_reads_210 : decode cX7_reads 210 = .ok (.isub, 1) := by decide +kernel
theorem dX7_reads_211 : decode cX7_reads 211 = .ok (.putfield 86, 3) := by decide +kernel
theorem dX7_reads_214 : decode cX7_reads 214 = .ok (.goto 5, 3) := by decide +kernel
theorem dX7_reads_217 : decode cX7_reads 217 = .ok (.iconst 0, 1) := by decide +kernel
theorem dX7_reads_218 : decode cX7_reads 218 = .ok (.ireturn, 1) := by decide +kernel
theorem dX7_reads_219 : decode cX7_reads 219 = .ok (.aload_n 0, 1) := by decide +kernel
theorem dX7_reads_220 : decode cX7_reads 220 = .ok (.dup, 1) := by decide +kernel
theorem dX7_reads_221 : decode cX7_reads 221 = .ok (.getfield 86, 3) := by decide +kernel
theorem dX7_reads_224 : decode cX7_reads 224 = .ok (.iconst 1, 1) := by decide +kernel
theorem dX7_reads_225 : decode cX7_reads 225 = .ok (.iadd, 1) := by decide +kernel
theorem dX7_reads_226 : decode cX7_reads 226 = .ok (.putfield 86, 3) := by decide +kernel
theorem dX7_reads_229 : decode cX7_reads 229 = .ok (.aload_n 0, 1) := by decide +kernel
theorem dX7_reads_230 : decode cX7_reads 230 = .ok (.invokevirtual 111, 3) := by decide +kernel
theorem dX7_reads_233 : decode cX7_reads 233 = .ok (.goto (-204), 3) := by decide +kernel
theorem dX7_reads_236 : decode cX7_reads 236 = .ok (.aload_n 0, 1) := by decide +kernel
theorem dX7_reads_237 : decode cX7_reads 237 = .ok (.getfield 114, 3) := by decide +kernel
theorem dX7_reads_240 : decode cX7_reads 240 = .ok (.ifCond .ne 14, 3) := by decide +kernel
theorem dX7_reads_243 : decode cX7_reads 243 = .ok (.aload_n 0, 1) := by decide +kernel
theorem dX7_reads_244 : decode cX7_reads 244 = .ok (.getfield 117, 3) := by decide +kernel
theorem dX7_reads_247 : decode cX7_reads 247 = .ok (.ifCond .ne 7, 3) := by decide +kernel
theorem dX7_reads_250 : decode cX7_reads 250 = .ok (.iconst 1, 1) := by decide +kernel
theorem dX7_reads_251 : decode cX7_reads 251 = .ok (.goto 4, 3) := by decide +kernel
theorem dX7_reads_254 : decode cX7_reads 254 = .ok (.iconst 0, 1) := by decide +kernel
theorem dX7_reads_255 : decode cX7_reads 255 = .ok (.ireturn, 1) := by decide +kernel
theorem dX7_sum_0 : decode cX7_sum 0 = .ok (.lload_n 0, 1) := by decide +kernel
theorem dX7_sum_1 : decode cX7_sum 1 = .ok (.lload_n 2, 1) := by decide +kernel
theorem dX7_sum_2 : decode cX7_sum 2 = .ok (.ladd, 1) := by decide +kernel
theorem dX7_sum_3 : decode cX7_sum 3 = .ok (.ldc2_w 126, 3) := by decide +kernel
theorem dX7_sum_6 : decode cX7_sum 6 = .ok (.lcmp, 1) := by decide +kernel
theorem dX7_sum_7 : decode cX7_sum 7 = .ok (.ifCond .le 9, 3) := by decide +kernel
theorem dX7_sum_10 : decode cX7_sum 10 = .ok (.ldc2_w 126, 3) := by decide +kernel
theorem dX7_sum_13 : decode cX7_sum 13 = .ok (.goto 6, 3) := by decide +kernel
theorem dX7_sum_16 : decode cX7_sum 16 = .ok (.lload_n 0, 1) := by decide +kernel
theorem dX7_sum_17 : decode cX7_sum 17 = .ok (.lload_n 2, 1) := by decide +kernel
theorem dX7_sum_18 : decode cX7_sum 18 = .ok (.ladd, 1) := by decide +kernel
theorem dX7_sum_19 : decode cX7_sum 19 = .ok (.lreturn, 1) := by decide +kernel
theorem dX7_times_0 : decode cX7_times 0 = .ok (.aload_n 0, 1) := by decide +kernel
theorem dX7_times_1 : decode cX7_times 1 = .ok (.getfield 13, 3) := by decide +kernel
theorem dX7_times_4 : decode cX7_times 4 = .ok (.iload_n 1, 1) := by decide +kernel
theorem dX7_times_5 : decode cX7_times 5 = .ok (.iaload, 1) := by decide +kernel
theorem dX7_times_6 : decode cX7_times 6 = .ok (.iconst 3, 1) := by decide +kernel
theorem dX7_times_7 : decode cX7_times 7 = .ok (.if_icmp .ne 13, 3) := by decide +kernel
theorem dX7_times_10 : decode cX7_times 10 = .ok (.aload_n 0, 1) := by decide +kernel
theorem dX7_times_11 : decode cX7_times 11 = .ok (.getfield 16, 3) := by decide +kernel
theorem dX7_times_14 : decode cX7_times 14 = .ok (.iload_n 1, 1) := by decide +kernel
theorem dX7_times_15 : decode cX7_times 15 = .ok (.iaload, 1) := by decide +kernel
theorem dX7_times_16 : decode cX7_times 16 = .ok (.i2l, 1) := by decide +kernel
theorem dX7_times_17 : decode cX7_times 17 = .ok (.goto 6, 3) := by decide +kernel
theorem dX7_times_20 : decode cX7_times 20 = .ok (.ldc2_w 128, 3) := by decide +kernel
theorem dX7_times_23 : decode cX7_times 23 = .ok (.aload_n 0, 1) := by decide +kernel
theorem dX7_times_24 : decode cX7_times 24 = .ok (.getfield 28, 3) := by decide +kernel
theorem dX7_times_27 : decode cX7_times 27 = .ok (.iload_n 1, 1) := by decide +kernel
theorem dX7_times_28 : decode cX7_times 28 = .ok (.laload, 1) := by decide +kernel
theorem dX7_times_29 : decode cX7_times 29 = .ok (.lmul, 1) := by decide +kernel
theorem dX7_times_30 : decode cX7_times 30 = .ok (.lstore_n 2, 1) := by decide +kernel
theorem dX7_times_31 : decode cX7_times 31 = .ok (.lload_n 2, 1) := by decide +kernel
theorem dX7_times_32 : decode cX7_times 32 = .ok (.ldc2_w 126, 3) := by decide +kernel
theorem dX7_times_35 : decode cX7_times 35 = .ok (.lcmp, 1) := by decide +kernel
theorem dX7_times_36 : decode cX7_times 36 = .ok (.ifCond .le 9, 3) := by decide +kernel
theorem dX7_times_39 : decode cX7_times 39 = .ok (.ldc2_w 126, 3) := by decide +kernel
theorem dX7_times_42 : decode cX7_times 42 = .ok (.goto 4, 3) := by decide +kernel
theorem dX7_times_45 : decode cX7_times 45 = .ok (.lload_n 2, 1) := by decide +kernel
theorem dX7_times_46 : decode cX7_times 46 = .ok (.lreturn, 1) := by decide +kernel
theorem dX7_isBracket_0 : decode cX7_isBracket 0 = .ok (.aload_n 0, 1) := by decide +kernel
theorem dX7_isBracket_1 : decode cX7_isBracket 1 = .ok (.getfield 13, 3) := by decide +kernel
theorem dX7_isBracket_4 : decode cX7_isBracket 4 = .ok (.iload_n 1, 1) := by decide +kernel
theorem dX7_isBracket_5 : decode cX7_isBracket 5 = .ok (.iaload, 1) := by decide +kernel
theorem dX7_isBracket_6 : decode cX7_isBracket 6 = .ok (.iconst 3, 1) := by decide +kernel
theorem dX7_isBracket_7 : decode cX7_isBracket 7 = .ok (.if_icmp .lt 7, 3) := by decide +kernel
theorem dX7_isBracket_10 : decode cX7_isBracket 10 = .ok (.iconst 1, 1) := by decide +kernel
theorem dX7_isBracket_11 : decode cX7_isBracket 11 = .ok (.goto 4, 3) := by decide +kernel
theorem dX7_isBracket_14 : decode cX7_isBracket 14 = .ok (.iconst 0, 1) := by decide +kernel
theorem dX7_isBracket_15 : decode cX7_isBracket 15 = .ok (.ireturn, 1) := by decide +kernel
set_option maxRecDepth 20000 in
theorem ggX7_reckon_X7_isBracket : GoodIn wsX7_reckon wsX7_isBracket := goodIn_r _ [13, 5, 23, 24, 25, 26, 27, 28, 29, 30, 31, 32, 33, 34, 35, 36, 37, 38, 39, 40, 41, 42, 43, 44, 45, 46, 47, 48, 49, 50, 51, 52, 53, 54, 55, 56, 57, 58, 59, 60, 61, 62, 63, 64, 65, 66] (by decide +kernel) (by decide +kernel)
set_option maxRecDepth 20000 in
theorem gX7_reckon_X7_isBracket : GoodIn wsX7_reckon (wsV RX7 137 RX7 yX7_isBracket wsX7_isBracket) := goodIn_app (goodIn_of _ (by decide +kernel)) ggX7_reckon_X7_isBracket
set_option maxRecDepth 20000 in
theorem ggX7_reckon_X7_times : GoodIn wsX7_reckon wsX7_times := goodIn_r _ [17, 5, 6, 18, 3, 19, 23, 24, 25, 26, 27, 28, 29, 30, 31, 32, 33, 34, 35, 36, 37, 38, 39, 40, 41, 42, 43, 44, 45, 46, 47, 48, 49, 50, 51, 52, 53, 54, 55, 56, 57, 58, 59, 60, 61, 62, 63, 64, 65, 66] (by decide +kernel) (by decide +kernel)
set_option maxRecDepth 20000 in
theorem gX7_reckon_X7_times : GoodIn wsX7_reckon (wsV RX7 140 RX7 yX7_times wsX7_times) := goodIn_app (goodIn_of _ (by decide +kernel)) ggX7_reckon_X7_times
set_option maxRecDepth 20000 in
theorem ggX7_reckon_X7_sum : GoodIn wsX7_reckon wsX7_sum := goodIn_r _ [22, 19] (by decide +kernel) (by decide +kernel)
set_option maxRecDepth 20000 in
theorem gX7_reckon_X7_sum : GoodIn wsX7_reckon (va_wsS RX7 144 yX7_sum wsX7_sum) := goodIn_app (goodIn_of _ (by decide +kernel)) ggX7_reckon_X7_sum
theorem dX7_reckon_0 : decode cX7_reckon 0 = .ok (.aload_n 0, 1) := by decide +kernel
theorem dX7_reckon_1 : decode cX7_reckon 1 = .ok (.lconst 0, 1) := by decide +kernel
theorem dX7_reckon_2 : decode cX7_reckon 2 = .ok (.putfield 130, 3) := by decide +kernel
theorem dX7_reckon_5 : decode cX7_reckon 5 = .ok (.aload_n 0, 1) := by decide +kernel
theorem dX7_reckon_6 : decode cX7_reckon 6 = .ok (.getfield 134, 3) := by decide +kernel
theorem dX7_reckon_9 : decode cX7_reckon 9 = .ok (.iconst 1, 1) := by decide +kernel
theorem dX7_reckon_10 : decode cX7_reckon 10 = .ok (.isub, 1) := by decide +kernel
theorem dX7_reckon_11 : decode cX7_reckon 11 = .ok (.istore_n 1, 1) := by decide +kernel
theorem dX7_reckon_12 : decode cX7_reckon 12 = .ok (.iload_n 1, 1) := by decide +kernel
theorem dX7_reckon_13 : decode cX7_reckon 13 = .ok (.ifCond .lt 199, 3) := by decide +kernel
theorem dX7_reckon_16 : decode cX7_reckon 16 = .ok (.aload_n 0, 1) := by decide +kernel
theorem dX7_reckon_17 : decode cX7_reckon 17 = .ok (.getfield 28, 3) := by decide +kernel
theorem dX7_reckon_20 : decode cX7_reckon 20 = .ok (.iload_n 1, 1) := by decide +kernel
theorem dX7_reckon_21 : decode cX7_reckon 21 = .ok (.lconst 0, 1) := by decide +kernel
theorem dX7_reckon_22 : decode cX7_reckon 22 = .ok (.lastore, 1) := by decide +kernel
theorem dX7_reckon_23 : decode cX7_reckon 23 = .ok (.aload_n 0, 1) := by decide +kernel
theorem dX7_reckon_24 : decode cX7_reckon 24 = .ok (.getfield 22, 3) := by decide +kernel
theorem dX7_reckon_27 : decode cX7_reckon 27 = .ok (.iload_n 1, 1) := by decide +kernel
theorem dX7_reckon_28 : decode cX7_reckon 28 = .ok (.aload_n 0, 1) := by decide +kernel
theorem dX7_reckon_29 : decode cX7_reckon 29 = .ok (.getfield 13, 3) := by decide +kernel
theorem dX7_reckon_32 : decode cX7_reckon 32 = .ok (.iload_n 1, 1) := by decide +kernel
theorem dX7_reckon_33 : decode cX7_reckon 33 = .ok (.iaload, 1) := by decide +kernel
theorem dX7_reckon_34 : decode cX7_reckon 34 = .ok (.iconst 1, 1) := by decide +kernel
theorem dX7_reckon_35 : decode cX7_reckon 35 = .ok (.if_icmp .ne 12, 3) := by decide +kernel
theorem dX7_reckon_38 : decode cX7_reckon 38 = .ok (.aload_n 0, 1) := by decide +kernel
theorem dX7_reckon_39 : decode cX7_reckon 39 = .ok (.getfield 16, 3) := by decide +kernel
theorem dX7_reckon_42 : decode cX7_reckon 42 = .ok (.iload_n 1, 1) := by decide +kernel
theorem dX7_reckon_43 : decode cX7_reckon 43 = .ok (.iaload, 1) := by decide +kernel
theorem dX7_reckon_44 : decode cX7_reckon 44 = .ok (.goto 4, 3) := by decide +kernel
theorem dX7_reckon_47 : decode cX7_reckon 47 = .ok (.iconst (-1), 1) := by decide +kernel
theorem dX7_reckon_48 : decode cX7_reckon 48 = .ok (.iastore, 1) := by decide +kernel
theorem dX7_reckon_49 : decode cX7_reckon 49 = .ok (.aload_n 0, 1) := by decide +kernel
theorem dX7_reckon_50 : decode cX7_reckon 50 = .ok (.getfield 25, 3) := by decide +kernel
theorem dX7_reckon_53 : decode cX7_reckon 53 = .ok (.iload_n 1, 1) := by decide +kernel
theorem dX7_reckon_54 : decode cX7_reckon 54 = .ok (.aload_n 0, 1) := by decide +kernel
theorem dX7_reckon_55 : decode cX7_reckon 55 = .ok (.getfield 13, 3) := by decide +kernel
theorem dX7_reckon_58 : decode cX7_reckon 58 = .ok (.iload_n 1, 1) := by decide +kernel
theorem dX7_reckon_59 : decode cX7_reckon 59 = .ok (.iaload, 1) := by decide +kernel
theorem dX7_reckon_60 : decode cX7_reckon 60 = .ok (.iconst 2, 1) := by decide +kernel
theorem dX7_reckon_61 : decode cX7_reckon 61 = .ok (.if_icmp .ne 12, 3) := by decide +kernel
theorem dX7_reckon_64 : decode cX7_reckon 64 = .ok (.aload_n 0, 1) := by decide +kernel
theorem dX7_reckon_65 : decode cX7_reckon 65 = .ok (.getfield 16, 3) := by decide +kernel
theorem dX7_reckon_68 : decode cX7_reckon 68 = .ok (.iload_n 1, 1) := by decide +kernel
theorem dX7_reckon_69 : decode cX7_reckon 69 = .ok (.iaload, 1) := by decide +kernel
theorem dX7_reckon_70 : decode cX7_reckon 70 = .ok (.goto 4, 3) := by decide +kernel
theorem dX7_reckon_73 : decode cX7_reckon 73 = .ok (.iconst (-1), 1) := by decide +kernel
theorem dX7_reckon_74 : decode cX7_reckon 74 = .ok (.iastore, 1) := by decide +kernel
theorem dX7_reckon_75 : decode cX7_reckon 75 = .ok (.iload_n 1, 1) := by decide +kernel
theorem dX7_reckon_76 : decode cX7_reckon 76 = .ok (.iconst 1, 1) := by decide +kernel
theorem dX7_reckon_77 : decode cX7_reckon 77 = .ok (.iadd, 1) := by decide +kernel
theorem dX7_reckon_78 : decode cX7_reckon 78 = .ok (.istore_n 2, 1) := by decide +kernel
theorem dX7_reckon_79 : decode cX7_reckon 79 = .ok (.iload_n 2, 1) := by decide +kernel
theorem dX7_reckon_80 : decode cX7_reckon 80 = .ok (.aload_n 0, 1) := by decide +kernel
theorem dX7_reckon_81 : decode cX7_reckon 81 = .ok (.getfield 19, 3) := by decide +kernel
theorem dX7_reckon_84 : decode cX7_reckon 84 = .ok (.iload_n 1, 1) := by decide +kernel
theorem dX7_reckon_85 : decode cX7_reckon 85 = .ok (.iaload, 1) := by decide +kernel
theorem dX7_reckon_86 : decode cX7_reckon 86 = .ok (.if_icmp .ge 120, 3) := by decide +kernel
theorem dX7_reckon_89 : decode cX7_reckon 89 = .ok (.aload_n 0, 1) := by decide +kernel
theorem dX7_reckon_90 : decode cX7_reckon 90 = .ok (.getfield 28, 3) := by decide +kernel
theorem dX7_reckon_93 : decode cX7_reckon 93 = .ok (.iload_n 1, 1) := by decide +kernel
theorem dX7_reckon_94 : decode cX7_reckon 94 = .ok (.aload_n 0, 1) := by decide +kernel
theorem dX7_reckon_95 : decode cX7_reckon 95 = .ok (.getfield 28, 3) := by decide +kernel
theorem dX7_reckon_98 : decode cX7_reckon 98 = .ok (.iload_n 1, 1) := by decide +kernel
theorem dX7_reckon_99 : decode cX7_reckon 99 = .ok (.laload, 1) := by decide +kernel
theorem dX7_reckon_100 : decode cX7_reckon 100 = .ok (.aload_n 0, 1) := by decide +kernel
theorem dX7_reckon_101 : decode cX7_reckon 101 = .ok (.iload_n 2, 1) := by decide +kernel
theorem dX7_reckon_102 : decode cX7_reckon 102 = .ok (.invokevirtual 137, 3) := by decide +kernel
theorem dX7_reckon_105 : decode cX7_reckon 105 = .ok (.ifCond .eq 11, 3) := by decide +kernel
theorem dX7_reckon_108 : decode cX7_reckon 108 = .ok (.aload_n 0, 1) := by decide +kernel
theorem dX7_reckon_109 : decode cX7_reckon 109 = .ok (.iload_n 2, 1) := by decide +kernel
theorem dX7_reckon_110 : decode cX7_reckon 110 = .ok (.invokevirtual 140, 3) := by decide +kernel
theorem dX7_reckon_113 : decode cX7_reckon 113 = .ok (.goto 17, 3) := by decide +kernel
theorem dX7_reckon_116 : decode cX7_reckon 116 = .ok (.aload_n 0, 1) := by decide +kernel
theorem dX7_reckon_117 : decode cX7_reckon 117 = .ok (.getfield 13, 3) := by decide +kernel
theorem dX7_reckon_120 : decode cX7_reckon 120 = .ok (.iload_n 2, 1) := by decide +kernel
theorem dX7_reckon_121 : decode cX7_reckon 121 = .ok (.iaload, 1) := by decide +kernel
theorem dX7_reckon_122 : decode cX7_reckon 122 = .ok (.ifCond .ne 7, 3) := by decide +kernel
theorem dX7_reckon_125 : decode cX7_reckon 125 = .ok (.lconst 1, 1) := by decide +kernel
theorem dX7_reckon_126 : decode cX7_reckon 126 = .ok (.goto 4, 3) := by decide +kernel
theorem dX7_reckon_129 : decode cX7_reckon 129 = .ok (.lconst 0, 1) := by decide +kernel
theorem dX7_reckon_130 : decode cX7_reckon 130 = .ok (.invokestatic 144, 3) := by decide +kernel
theorem dX7_reckon_133 : decode cX7_reckon 133 = .ok (.lastore, 1) := by decide +kernel
theorem dX7_reckon_134 : decode cX7_reckon 134 = .ok (.aload_n 0, 1) := by decide +kernel
theorem dX7_reckon_135 : decode cX7_reckon 135 = .ok (.getfield 22, 3) := by decide +kernel
theorem dX7_reckon_138 : decode cX7_reckon 138 = .ok (.iload_n 1, 1) := by decide +kernel
theorem dX7_reckon_139 : decode cX7_reckon 139 = .ok (.aload_n 0, 1) := by decide +kernel
theorem dX7_reckon_140 : decode cX7_reckon 140 = .ok (.getfield 22, 3) := by decide +kernel
theorem dX7_reckon_143 : decode cX7_reckon 143 = .ok (.iload_n 2, 1) := by decide +kernel
theorem dX7_reckon_144 : decode cX7_reckon 144 = .ok (.iaload, 1) := by decide +kernel
theorem dX7_reckon_145 : decode cX7_reckon 145 = .ok (.iconst (-1), 1) := by decide +kernel
theorem dX7_reckon_146 : decode cX7_reckon 146 = .ok (.if_icmp .ne 12, 3) := by decide +kernel
theorem dX7_reckon_149 : decode cX7_reckon 149 = .ok (.aload_n 0, 1) := by decide +kernel
theorem dX7_reckon_150 : decode cX7_reckon 150 = .ok (.getfield 22, 3) := by decide +kernel
theorem dX7_reckon_153 : decode cX7_reckon 153 = .ok (.iload_n 1, 1) := by decide +kernel
theorem dX7_reckon_154 : decode cX7_reckon 154 = .ok (.iaload, 1) := by decide +kernel
theorem dX7_reckon_155 : decode cX7_reckon 155 = .ok (.goto 9, 3) := by decide +kernel
theorem dX7_reckon_158 : decode cX7_reckon 158 = .ok (.aload_n 0, 1) := by decide +kernel
theorem dX7_reckon_159 : decode cX7_reckon 159 = .ok (.getfield 22, 3) := by decide +kernel
theorem dX7_reckon_162 : decode cX7_reckon 162 = .ok (.iload_n 2, 1) := by decide +kernel
theorem dX7_reckon_163 : decode cX7_reckon 163 = .ok (.iaload, 1) := by decide +kernel
theorem dX7_reckon_164 : decode cX7_reckon 164 = .ok (.iastore, 1) := by decide +kernel
theorem dX7_reckon_165 : decode cX7_reckon 165 = .ok (.aload_n 0, 1) := by decide +kernel
theorem dX7_reckon_166 : decode cX7_reckon 166 = .ok (.getfield 25, 3) := by decide +kernel
theorem dX7_reckon_169 : decode cX7_reckon 169 = .ok (.iload_n 1, 1) := by decide +kernel
theorem dX7_reckon_170 : decode cX7_reckon 170 = .ok (.aload_n 0, 1) := by decide +kernel
theorem dX7_reckon_171 : decode cX7_reckon 171 = .ok (.getfield 25, 3) := by decide +kernel
theorem dX7_reckon_174 : decode cX7_reckon 174 = .ok (.iload_n 2, 1) := by decide +kernel
theorem dX7_reckon_175 : decode cX7_reckon 175 = .ok (.iaload, 1) := by decide +kernel
theorem dX7_reckon_176 : decode cX7_reckon 176 = .ok (.iconst (-1), 1) := by decide +kernel
theorem dX7_reckon_177 : decode cX7_reckon 177 = .ok (.if_icmp .ne 12, 3) := by decide +kernel
theorem dX7_reckon_180 : decode cX7_reckon 180 = .ok (.aload_n 0, 1) := by decide +kernel
theorem dX7_reckon_181 : decode cX7_reckon 181 = .ok (.getfield 25, 3) := by decide +kernel
theorem dX7_reckon_184 : decode cX7_reckon 184 = .ok (.iload_n 1, 1) := by decide +kernel
theorem dX7_reckon_185 : decode cX7_reckon 185 = .ok (.iaload, 1) := by decide +kernel
theorem dX7_reckon_186 : decode cX7_reckon 186 = .ok (.goto 9, 3) := by decide +kernel
theorem dX7_reckon_189 : decode cX7_reckon 189 = .ok (.aload_n 0, 1) := by decide +kernel
theorem dX7_reckon_190 : decode cX7_reckon 190 = .ok (.getfield 25, 3) := by decide +kernel
theorem dX7_reckon_193 : decode cX7_reckon 193 = .ok (.iload_n 2, 1) := by decide +kernel
theorem dX7_reckon_194 : decode cX7_reckon 194 = .ok (.iaload, 1) := by decide +kernel
theorem dX7_reckon_195 : decode cX7_reckon 195 = .ok (.iastore, 1) := by decide +kernel
theorem dX7_reckon_196 : decode cX7_reckon 196 = .ok (.aload_n 0, 1) := by decide +kernel
theorem dX7_reckon_197 : decode cX7_reckon 197 = .ok (.getfield 19, 3) := by decide +kernel
theorem dX7_reckon_200 : decode cX7_reckon 200 = .ok (.iload_n 2, 1) := by decide +kernel
theorem dX7_reckon_201 : decode cX7_reckon 201 = .ok (.iaload, 1) := by decide +kernel
theorem dX7_reckon_202 : decode cX7_reckon 202 = .ok (.istore_n 2, 1) := by decide +kernel
theorem dX7_reckon_203 : decode cX7_reckon 203 = .ok (.goto (-124), 3) := by decide +kernel
theorem dX7_reckon_206 : decode cX7_reckon 206 = .ok (.iinc 1 (-1), 3) := by decide +kernel
theorem dX7_reckon_209 : decode cX7_reckon 209 = .ok (.goto (-197), 3) := by decide +kernel
theorem dX7_reckon_212 : decode cX7_reckon 212 = .ok (.iconst 0, 1) := by decide +kernel
theorem dX7_reckon_213 : decode cX7_reckon 213 = .ok (.istore_n 1, 1) := by decide +kernel
theorem dX7_reckon_214 : decode cX7_reckon 214 = .ok (.iload_n 1, 1) := by decide +kernel
theorem dX7_reckon_215 : decode cX7_reckon 215 = .ok (.aload_n 0, 1) := by decide +kernel
theorem dX7_reckon_216 : decode cX7_reckon 216 = .ok (.getfield 134, 3) := by decide +kernel
theorem dX7_reckon_219 : decode cX7_reckon 219 = .ok (.if_icmp .ge 54, 3) := by decide +kernel
theorem dX7_reckon_222 : decode cX7_reckon 222 = .ok (.aload_n 0, 1) := by decide +kernel
theorem dX7_reckon_223 : decode cX7_reckon 223 = .ok (.aload_n 0, 1) := by decide +kernel
theorem dX7_reckon_224 : decode cX7_reckon 224 = .ok (.getfield 130, 3) := by decide +kernel
theorem dX7_reckon_227 : decode cX7_reckon 227 = .ok (.aload_n 0, 1) := by decide +kernel
theorem dX7_reckon_228 : decode cX7_reckon 228 = .ok (.iload_n 1, 1) := by decide +kernel
theorem dX7_reckon_229 : decode cX7_reckon 229 = .ok (.invokevirtual 137, 3) := by decide +kernel
theorem dX7_reckon_232 : decode cX7_reckon 232 = .ok (.ifCond .eq 11, 3) := by decide +kernel
theorem dX7_reckon_235 : decode cX7_reckon 235 = .ok (.aload_n 0, 1) := by decide +kernel
theorem dX7_reckon_236 : decode cX7_reckon 236 = .ok (.iload_n 1, 1) := by decide +kernel
theorem dX7_reckon_237 : decode cX7_reckon 237 = .ok (.invokevirtual 140, 3) := by decide +kernel
theorem dX7_reckon_240 : decode cX7_reckon 240 = .ok (.goto 17, 3) := by decide +kernel
theorem dX7_reckon_243 : decode cX7_reckon 243 = .ok (.aload_n 0, 1) := by decide +kernel
theorem dX7_reckon_244 : decode cX7_reckon 244 = .ok (.getfield 13, 3) := by decide +kernel
theorem dX7_reckon_247 : decode cX7_reckon 247 = .ok (.iload_n 1, 1) := by decide +kernel
theorem dX7_reckon_248 : decode cX7_reckon 248 = .ok (.iaload, 1) := by decide +kernel
theorem dX7_reckon_249 : decode cX7_reckon 249 = .ok (.ifCond .ne 7, 3) := by decide +kernel
theorem dX7_reckon_252 : decode cX7_reckon 252 = .ok (.lconst 1, 1) := by decide +kernel
theorem dX7_reckon_253 : decode cX7_reckon 253 = .ok (.goto 4, 3) := by decide +kernel
theorem dX7_reckon_256 : decode cX7_reckon 256 = .ok (.lconst 0, 1) := by decide +kernel
theorem dX7_reckon_257 : decode cX7_reckon 257 = .ok (.invokestatic 144, 3) := by decide +kernel
theorem dX7_reckon_260 : decode cX7_reckon 260 = .ok (.putfield 130, 3) := by decide +kernel
theorem dX7_reckon_263 : decode cX7_reckon 263 = .ok (.aload_n 0, 1) := by decide +kernel
theorem dX7_reckon_264 : decode cX7_reckon 264 = .ok (.getfield 19, 3) := by decide +kernel
theorem dX7_reckon_267 : decode cX7_reckon 267 = .ok (.iload_n 1, 1) := by decide +kernel
theorem dX7_reckon_268 : decode cX7_reckon 268 = .ok (.iaload, 1) := by decide +kernel
theorem dX7_reckon_269 : decode cX7_reckon 269 = .ok (.istore_n 1, 1) := by decide +kernel
theorem dX7_reckon_270 : decode cX7_reckon 270 = .ok (.goto (-56), 3) := by decide +kernel
theorem dX7_reckon_273 : decode cX7_reckon 273 = .ok (.return_, 1) := by decide +kernel
set_option maxRecDepth 20000 in
theorem ggX7_swap_X7_reckon : GoodIn wsX7_swap wsX7_reckon := goodIn_r _ [13, 14, 1, 15, 16, 3, 4, 17, 5, 18, 19, 20, 12, 21, 22, 23, 24, 25, 26, 27, 28, 29, 30, 31, 32, 33, 34, 35, 36, 37, 38, 39, 40, 41, 42, 43, 44, 45, 46, 47, 48, 49, 50, 51, 52, 53, 54, 55, 56, 57, 58, 59, 60, 61, 62, 63, 64, 65, 66, 67, 68, 69, 70, 71, 72, 73, 74] (by decide +kernel) (by decide +kernel)
set_option maxRecDepth 20000 in
theorem gX7_swap_X7_reckon : GoodIn wsX7_swap (wsV RX7 148 RX7 yX7_reckon wsX7_reckon) := goodIn_app (goodIn_of _ (by decide +kernel)) ggX7_swap_X7_reckon
theorem dX7_swap_0 : decode cX7_swap 0 = .ok (.aload_n 0, 1) := by decide +kernel
theorem dX7_swap_1 : decode cX7_swap 1 = .ok (.getfield 134, 3) := by decide +kernel
theorem dX7_swap_4 : decode cX7_swap 4 = .ok (.aload_n 0, 1) := by decide +kernel
theorem dX7_swap_5 : decode cX7_swap 5 = .ok (.getfield 93, 3) := by decide +kernel
theorem dX7_swap_8 : decode cX7_swap 8 = .ok (.if_icmp .le 10, 3) := by decide +kernel
theorem dX7_swap_11 : decode cX7_swap 11 = .ok (.aload_n 0, 1) := by decide +kernel
theorem dX7_swap_12 : decode cX7_swap 12 = .ok (.getfield 134, 3) := by decide +kernel
theorem dX7_swap_15 : decode cX7_swap 15 = .ok (.goto 7, 3) := by decide +kernel
theorem dX7_swap_18 : decode cX7_swap 18 = .ok (.aload_n 0, 1) := by decide +kernel
theorem dX7_swap_19 : decode cX7_swap 19 = .ok (.getfield 93, 3) := by decide +kernel
theorem dX7_swap_22 : decode cX7_swap 22 = .ok (.istore_n 1, 1) := by decide +kernel
theorem dX7_swap_23 : decode cX7_swap 23 = .ok (.iconst 0, 1) := by decide +kernel
theorem dX7_swap_24 : decode cX7_swap 24 = .ok (.istore_n 2, 1) := by decide +kernel
theorem dX7_swap_25 : decode cX7_swap 25 = .ok (.iload_n 2, 1) := by decide +kernel
theorem dX7_swap_26 : decode cX7_swap 26 = .ok (.iload_n 1, 1) := by decide +kernel
theorem dX7_swap_27 : decode cX7_swap 27 = .ok (.if_icmp .ge 91, 3) := by decide +kernel
theorem dX7_swap_30 : decode cX7_swap 30 = .ok (.aload_n 0, 1) := by decide +kernel
theorem dX7_swap_31 : decode cX7_swap 31 = .ok (.getfield 13, 3) := by decide +kernel
theorem dX7_swap_34 : decode cX7_swap 34 = .ok (.iload_n 2, 1) := by decide +kernel
theorem dX7_swap_35 : decode cX7_swap 35 = .ok (.iaload, 1) := by decide +kernel
theorem dX7_swap_36 : decode cX7_swap 36 = .ok (.istore_n 3, 1) := by decide +kernel
theorem dX7_swap_37 : decode cX7_swap 37 = .ok (.aload_n 0, 1) := by decide +kernel
theorem dX7_swap_38 : decode cX7_swap 38 = .ok (.getfield 16, 3) := by decide +kernel
theorem dX7_swap_41 : decode cX7_swap 41 = .ok (.iload_n 2, 1) := by decide +kernel
theorem dX7_swap_42 : decode cX7_swap 42 = .ok (.iaload, 1) := by decide +kernel
theorem dX7_swap_43 : decode cX7_swap 43 = .ok (.istore 4, 2) := by decide +kernel
theorem dX7_swap_45 : decode cX7_swap 45 = .ok (.aload_n 0, 1) := by decide +kernel
theorem dX7_swap_46 : decode cX7_swap 46 = .ok (.getfield 19, 3) := by decide +kernel
theorem dX7_swap_49 : decode cX7_swap 49 = .ok (.iload_n 2, 1) := by decide +kernel
theorem dX7_swap_50 : decode cX7_swap 50 = .ok (.iaload, 1) := by decide +kernel
theorem dX7_swap_51 : decode cX7_swap 51 = .ok (.istore 5, 2) := by decide +kernel
theorem dX7_swap_53 : decode cX7_swap 53 = .ok (.aload_n 0, 1) := by decide +kernel
theorem dX7_swap_54 : decode cX7_swap 54 = .ok (.getfield 13, 3) := by decide +kernel
theorem dX7_swap_57 : decode cX7_swap 57 = .ok (.iload_n 2, 1) := by decide +kernel
theorem dX7_swap_58 : decode cX7_swap 58 = .ok (.aload_n 0, 1) := by decide +kernel
theorem dX7_swap_59 : decode cX7_swap 59 = .ok (.getfield 32, 3) := by decide +kernel
theorem dX7_swap_62 : decode cX7_swap 62 = .ok (.iload_n 2, 1) := by decide +kernel
theorem dX7_swap_63 : decode cX7_swap 63 = .ok (.iaload, 1) := by decide +kernel
theorem dX7_swap_64 : decode cX7_swap 64 = .ok (.iastore, 1) := by decide +kernel
theorem dX7_swap_65 : decode cX7_swap 65 = .ok (.aload_n 0, 1) := by decide +kernel
theorem dX7_swap_66 : decode cX7_swap 66 = .ok (.getfield 16, 3) := by decide +kernel
theorem dX7_swap_69 : decode cX7_swap 69 = .ok (.iload_n 2, 1) := by decide +kernel
theorem dX7_swap_70 : decode cX7_swap 70 = .ok (.aload_n 0, 1) := by decide +kernel
theorem dX7_swap_71 : decode cX7_swap 71 = .ok (.getfield 35, 3) := by decide +kernel
theorem dX7_swap_74 : decode cX7_swap 74 = .ok (.iload_n 2, 1) := by decide +kernel
theorem dX7_swap_75 : decode cX7_swap 75 = .ok (.iaload, 1) := by decide +kernel
theorem dX7_swap_76 : decode cX7_swap 76 = .ok (.iastore, 1) := by decide +kernel
theorem dX7_swap_77 : decode cX7_swap 77 = .ok (.aload_n 0, 1) := by decide +kernel
theorem dX7_swap_78 : decode cX7_swap 78 = .ok (.getfield 19, 3) := by decide +kernel
theorem dX7_swap_81 : decode cX7_swap 81 = .ok (.iload_n 2, 1) := by decide +kernel
theorem dX7_swap_82 : decode cX7_swap 82 = .ok (.aload_n 0, 1) := by decide +kernel
theorem dX7_swap_83 : decode cX7_swap 83 = .ok (.getfield 38, 3) := by decide +kernel
theorem dX7_swap_86 : decode cX7_swap 86 = .ok (.iload_n 2, 1) := by decide +kernel
theorem dX7_swap_87 : decode cX7_swap 87 = .ok (.iaload, 1) := by decide +kernel
theorem dX7_swap_88 : decode cX7_swap 88 = .ok (.iastore, 1) := by decide +kernel
theorem dX7_swap_89 : decode cX7_swap 89 = .ok (.aload_n 0, 1) := by decide +kernel
theorem dX7_swap_90 : decode cX7_swap 90 = .ok (.getfield 32, 3) := by decide +kernel
theorem dX7_swap_93 : decode cX7_swap 93 = .ok (.iload_n 2, 1) := by decide +kernel
theorem dX7_swap_94 : decode cX7_swap 94 = .ok (.iload_n 3, 1) := by decide +kernel
theorem dX7_swap_95 : decode cX7_swap 95 = .ok (.iastore, 1) := by decide +kernel
theorem dX7_swap_96 : decode cX7_swap 96 = .ok (.aload_n 0, 1) := by decide +kernel
theorem dX7_swap_97 : decode cX7_swap 97 = .ok (.getfield 35, 3) := by decide +kernel
theorem dX7_swap_100 : decode cX7_swap 100 = .ok (.iload_n 2, 1) := by decide +kernel
theorem dX7_swap_101 : decode cX7_swap 101 = .ok (.iload 4, 2) := by decide +kernel
theorem dX7_swap_103 : decode cX7_swap 103 = .ok (.iastore, 1) := by decide +kernel
theorem dX7_swap_104 : decode cX7_swap 104 = .ok (.aload_n 0, 1) := by decide +kernel
theorem dX7_swap_105 : decode cX7_swap 105 = .ok (.getfield 38, 3) := by decide +kernel
theorem dX7_swap_108 : decode cX7_swap 108 = .ok (.iload_n 2, 1) := by decide +kernel
theorem dX7_swap_109 : decode cX7_swap 109 = .ok (.iload 5, 2) := by decide +kernel
theorem dX7_swap_111 : decode cX7_swap 111 = .ok (.iastore, 1) := by decide +kernel
theorem dX7_swap_112 : decode cX7_swap 112 = .ok (.iinc 2 1, 3) := by decide +kernel
theorem dX7_swap_115 : decode cX7_swap 115 = .ok (.goto (-90), 3) := by decide +kernel
theorem dX7_swap_118 : decode cX7_swap 118 = .ok (.aload_n 0, 1) := by decide +kernel
theorem dX7_swap_119 : decode cX7_swap 119 = .ok (.getfield 134, 3) := by decide +kernel
theorem dX7_swap_122 : decode cX7_swap 122 = .ok (.istore_n 2, 1) := by decide +kernel
theorem dX7_swap_123 : decode cX7_swap 123 = .ok (.aload_n 0, 1) := by decide +kernel
theorem dX7_swap_124 : decode cX7_swap 124 = .ok (.aload_n 0, 1) := by decide +kernel
theorem dX7_swap_125 : decode cX7_swap 125 = .ok (.getfield 93, 3) := by decide +kernel
theorem dX7_swap_128 : decode cX7_swap 128 = .ok (.putfield 134, 3) := by decide +kernel
theorem dX7_swap_131 : decode cX7_swap 131 = .ok (.aload_n 0, 1) := by decide +kernel
theorem dX7_swap_132 : decode cX7_swap 132 = .ok (.iload_n 2, 1) := by decide +kernel
theorem dX7_swap_133 : decode cX7_swap 133 = .ok (.putfield 93, 3) := by decide +kernel
theorem dX7_swap_136 : decode cX7_swap 136 = .ok (.aload_n 0, 1) := by decide +kernel
theorem dX7_swap_137 : decode cX7_swap 137 = .ok (.invokevirtual 148, 3) := by decide +kernel
theorem dX7_swap_140 : decode cX7_swap 140 = .ok (.return_, 1) := by decide +kernel
set_option maxRecDepth 20000 in
theorem ggX7_compile_X7_reads : GoodIn wsX7_compile wsX7_reads := goodIn_r _ [14, 4, 15, 16, 17, 18, 7, 19, 20, 21, 22, 23, 24, 13, 25, 26, 27, 28, 29, 30, 31, 32, 33, 34, 35, 36, 37, 38, 39, 40, 41, 42, 43, 44, 45, 46, 47, 48, 49, 50, 79, 80, 81, 82, 83, 84, 85, 86, 87, 88, 89, 90, 91, 92, 93, 94, 95, 96, 97, 98, 99, 100, 101, 102, 103, 104, 105, 106, 107, 108, 109, 110, 111, 112, 113, 114, 115, 116, 117, 118, 119, 120, 121, 122] (by decide +kernel) (by decide +kernel)
set_option maxRecDepth 20000 in
theorem gX7_compile_X7_reads : GoodIn wsX7_compile (wsV RX7 154 RX7 yX7_reads wsX7_reads) := goodIn_app (goodIn_of _ (by decide +kernel)) ggX7_compile_X7_reads
set_option maxRecDepth 20000 in
theorem ggX7_compile_X7_swap : GoodIn wsX7_compile wsX7_swap := goodIn_r _ [54, 55, 15, 56, 57, 58, 45, 46, 20, 59, 60, 61, 13, 62, 5, 63, 64, 65, 66, 67, 68, 69, 70, 71, 72, 73, 74, 75, 76, 77, 78, 79, 80, 81, 82, 83, 84, 85, 86, 87, 88, 89, 90, 91, 92, 93, 94, 95, 96, 97, 98, 99, 100, 101, 102, 103, 104, 105, 106, 107, 108, 109, 110, 111, 112, 113, 114, 115, 116, 117, 118, 119, 120, 121, 122] (by decide +kernel) (by decide +kernel)
set_option maxRecDepth 20000 in
theorem gX7_compile_X7_swap : GoodIn wsX7_compile (wsV RX7 158 RX7 yX7_swap wsX7_swap) := goodIn_app (goodIn_of _ (by decide +kernel)) ggX7_compile_X7_swap
set_option maxRecDepth 20000 in
theorem ggX7_compile_X7_skip : GoodIn wsX7_compile wsX7_skip := goodIn_r _ [25, 4, 26, 27, 28, 13, 29, 7, 30, 79, 80, 81, 82, 83, 84, 85, 86, 87, 88, 89, 90, 91, 92, 93, 94, 95, 96, 97, 98, 99, 100, 101, 102, 103, 104, 105, 106, 107, 108, 109, 110, 111, 112, 113, 114, 115, 116, 117, 118, 119, 120, 121, 122] (by decide +kernel) (by decide +kernel)
set_option maxRecDepth 20000 in
theorem gX7_compile_X7_skip : GoodIn wsX7_compile (wsV RX7 111 RX7 yX7_skip wsX7_skip) := goodIn_app (goodIn_of _ (by decide +kernel)) ggX7_compile_X7_skip
theorem dX7_compile_0 : decode cX7_compile 0 = .ok (.aload_n 0, 1) := by decide +kernel
theorem dX7_compile_1 : decode cX7_compile 1 = .ok (.iconst 0, 1) := by decide +kernel
theorem dX7_compile_2 : decode cX7_compile 2 = .ok (.putfield 74, 3) := by decide +kernel
theorem dX7_compile_5 : decode cX7_compile 5 = .ok (.aload_n 0, 1) := by decide +kernel
theorem dX7_compile_6 : decode cX7_compile 6 = .ok (.getfield 151, 3) := by decide +kernel
theorem dX7_compile_9 : decode cX7_compile 9 = .ok (.ifCond .ne 10, 3) := by decide +kernel
theorem dX7_compile_12 : decode cX7_compile 12 = .ok (.aload_n 0, 1) := by decide +kernel
theorem dX7_compile_13 : decode cX7_compile 13 = .ok (.getfield 47, 3) := by decide +kernel
theorem dX7_compile_16 : decode cX7_compile 16 = .ok (.ifCond .ne 5, 3) := by decide +kernel
theorem dX7_compile_19 : decode cX7_compile 19 = .ok (.iconst (-1), 1) := by decide +kernel
theorem dX7_compile_20 : decode cX7_compile 20 = .ok (.ireturn, 1) := by decide +kernel
theorem dX7_compile_21 : decode cX7_compile 21 = .ok (.aload_n 0, 1) := by decide +kernel
theorem dX7_compile_22 : decode cX7_compile 22 = .ok (.invokevirtual 154, 3) := by decide +kernel
theorem dX7_compile_25 : decode cX7_compile 25 = .ok (.istore_n 1, 1) := by decide +kernel
theorem dX7_compile_26 : decode cX7_compile 26 = .ok (.aload_n 0, 1) := by decide +kernel
theorem dX7_compile_27 : decode cX7_compile 27 = .ok (.getfield 86, 3) := by decide +kernel
theorem dX7_compile_30 : decode cX7_compile 30 = .ok (.istore_n 2, 1) := by decide +kernel
theorem dX7_compile_31 : decode cX7_compile 31 = .ok (.iload_n 1, 1) := by decide +kernel
theorem dX7_compile_32 : decode cX7_compile 32 = .ok (.ifCond .eq 55, 3) := by decide +kernel
theorem dX7_compile_35 : decode cX7_compile 35 = .ok (.aload_n 0, 1) := by decide +kernel
theorem dX7_compile_36 : decode cX7_compile 36 = .ok (.invokevirtual 158, 3) := by decide +kernel
theorem dX7_compile_39 : decode cX7_compile 39 = .ok (.aload_n 0, 1) := by decide +kernel
theorem dX7_compile_40 : decode cX7_compile 40 = .ok (.getfield 130, 3) := by decide +kernel
theorem dX7_compile_43 : decode cX7_compile 43 = .ok (.lconst 0, 1) := by decide +kernel
theorem dX7_compile_44 : decode cX7_compile 44 = .ok (.lcmp, 1) := by decide +kernel
theorem dX7_compile_45 : decode cX7_compile 45 = .ok (.ifCond .le 18, 3) := by decide +kernel
theorem dX7_compile_48 : decode cX7_compile 48 = .ok (.aload_n 0, 1) := by decide +kernel
theorem dX7_compile_49 : decode cX7_compile 49 = .ok (.getfield 130, 3) := by decide +kernel
theorem dX7_compile_52 : decode cX7_compile 52 = .ok (.ldc2_w 161, 3) := by decide +kernel
theorem dX7_compile_55 : decode cX7_compile 55 = .ok (.lcmp, 1) := by decide +kernel
theorem dX7_compile_56 : decode cX7_compile 56 = .ok (.ifCond .gt 7, 3) := by decide +kernel
theorem dX7_compile_59 : decode cX7_compile 59 = .ok (.iconst 1, 1) := by decide +kernel
theorem dX7_compile_60 : decode cX7_compile 60 = .ok (.goto 4, 3) := by decide +kernel
theorem dX7_compile_63 : decode cX7_compile 63 = .ok (.iconst 0, 1) := by decide +kernel
theorem dX7_compile_64 : decode cX7_compile 64 = .ok (.istore_n 1, 1) := by decide +kernel
theorem dX7_compile_65 : decode cX7_compile 65 = .ok (.aload_n 0, 1) := by decide +kernel
theorem dX7_compile_66 : decode cX7_compile 66 = .ok (.iconst 0, 1) := by decide +kernel
theorem dX7_compile_67 : decode cX7_compile 67 = .ok (.putfield 86, 3) := by decide +kernel
theorem dX7_compile_70 : decode cX7_compile 70 = .ok (.aload_n 0, 1) := by decide +kernel
theorem dX7_compile_71 : decode cX7_compile 71 = .ok (.invokevirtual 111, 3) := by decide +kernel
theorem dX7_compile_74 : decode cX7_compile 74 = .ok (.aload_n 0, 1) := by decide +kernel
theorem dX7_compile_75 : decode cX7_compile 75 = .ok (.getfield 86, 3) := by decide +kernel
theorem dX7_compile_78 : decode cX7_compile 78 = .ok (.istore_n 2, 1) := by decide +kernel
theorem dX7_compile_79 : decode cX7_compile 79 = .ok (.iload_n 1, 1) := by decide +kernel
theorem dX7_compile_80 : decode cX7_compile 80 = .ok (.ifCond .ne 7, 3) := by decide +kernel
theorem dX7_compile_83 : decode cX7_compile 83 = .ok (.aload_n 0, 1) := by decide +kernel
theorem dX7_compile_84 : decode cX7_compile 84 = .ok (.invokevirtual 158, 3) := by decide +kernel
theorem dX7_compile_87 : decode cX7_compile 87 = .ok (.aload_n 0, 1) := by decide +kernel
theorem dX7_compile_88 : decode cX7_compile 88 = .ok (.iconst 0, 1) := by decide +kernel
theorem dX7_compile_89 : decode cX7_compile 89 = .ok (.putfield 77, 3) := by decide +kernel
theorem dX7_compile_92 : decode cX7_compile 92 = .ok (.iload_n 1, 1) := by decide +kernel
theorem dX7_compile_93 : decode cX7_compile 93 = .ok (.ifCond .ne 7, 3) := by decide +kernel
theorem dX7_compile_96 : decode cX7_compile 96 = .ok (.iload_n 2, 1) := by decide +kernel
theorem dX7_compile_97 : decode cX7_compile 97 = .ok (.iconst 1, 1) := by decide +kernel
theorem dX7_compile_98 : decode cX7_compile 98 = .ok (.iadd, 1) := by decide +kernel
theorem dX7_compile_99 : decode cX7_compile 99 = .ok (.ireturn, 1) := by decide +kernel
theorem dX7_compile_100 : decode cX7_compile 100 = .ok (.aload_n 0, 1) := by decide +kernel
theorem dX7_compile_101 : decode cX7_compile 101 = .ok (.lconst 0, 1) := by decide +kernel
theorem dX7_compile_102 : decode cX7_compile 102 = .ok (.putfield 163, 3) := by decide +kernel
theorem dX7_compile_105 : decode cX7_compile 105 = .ok (.aload_n 0, 1) := by decide +kernel
theorem dX7_compile_106 : decode cX7_compile 106 = .ok (.getfield 64, 3) := by decide +kernel
theorem dX7_compile_109 : decode cX7_compile 109 = .ok (.iconst 0, 1) := by decide +kernel
theorem dX7_compile_110 : decode cX7_compile 110 = .ok (.iconst 0, 1) := by decide +kernel
theorem dX7_compile_111 : decode cX7_compile 111 = .ok (.bastore, 1) := by decide +kernel
theorem dX7_compile_112 : decode cX7_compile 112 = .ok (.aload_n 0, 1) := by decide +kernel
theorem dX7_compile_113 : decode cX7_compile 113 = .ok (.getfield 64, 3) := by decide +kernel
theorem dX7_compile_116 : decode cX7_compile 116 = .ok (.iconst 1, 1) := by decide +kernel
theorem dX7_compile_117 : decode cX7_compile 117 = .ok (.iconst 0, 1) := by decide +kernel
theorem dX7_compile_118 : decode cX7_compile 118 = .ok (.bastore, 1) := by decide +kernel
theorem dX7_compile_119 : decode cX7_compile 119 = .ok (.iconst 0, 1) := by decide +kernel
theorem dX7_compile_120 : decode cX7_compile 120 = .ok (.ireturn, 1) := by decide +kernel
theorem dX7_length_0 : decode cX7_length 0 = .ok (.aload_n 0, 1) := by decide +kernel
theorem dX7_length_1 : decode cX7_length 1 = .ok (.iconst 0, 1) := by decide +kernel
theorem dX7_length_2 : decode cX7_length 2 = .ok (.putfield 74, 3) := by decide +kernel
theorem dX7_length_5 : decode cX7_length 5 = .ok (.aload_n 0, 1) := by decide +kernel
theorem dX7_length_6 : decode cX7_length 6 = .ok (.getfield 130, 3) := by decide +kernel
theorem dX7_length_9 : decode cX7_length 9 = .ok (.lreturn, 1) := by decide +kernel
set_option maxRecDepth 20000 in
theorem ggX7_look_X7_isBracket : GoodIn wsX7_look wsX7_isBracket := goodIn_r _ [12, 1, 18, 19, 20, 21, 22, 23, 24, 25, 26, 27, 28, 29, 30, 31, 32, 33, 34, 35, 36, 37, 38, 39, 40, 41, 42, 43, 44, 45, 46, 47, 48, 49, 50, 51, 52, 53, 54, 55, 56, 57, 58, 59, 60, 61] (by decide +kernel) (by decide +kernel)
set_option maxRecDepth 20000 in
theorem gX7_look_X7_isBracket : GoodIn wsX7_look (wsV RX7 137 RX7 yX7_isBracket wsX7_isBracket) := goodIn_app (goodIn_of _ (by decide +kernel)) ggX7_look_X7_isBracket
set_option maxRecDepth 20000 in
theorem ggX7_look_X7_times : GoodIn wsX7_look wsX7_times := goodIn_r _ [16, 1, 7, 6, 2, 17, 18, 19, 20, 21, 22, 23, 24, 25, 26, 27, 28, 29, 30, 31, 32, 33, 34, 35, 36, 37, 38, 39, 40, 41, 42, 43, 44, 45, 46, 47, 48, 49, 50, 51, 52, 53, 54, 55, 56, 57, 58, 59, 60, 61] (by decide +kernel) (by decide +kernel)
set_option maxRecDepth 20000 in
theorem gX7_look_X7_times : GoodIn wsX7_look (wsV RX7 140 RX7 yX7_times wsX7_times) := goodIn_app (goodIn_of _ (by decide +kernel)) ggX7_look_X7_times
theorem dX7_look_0 : decode cX7_look 0 = .ok (.iconst 0, 1) := by decide +kernel
theorem dX7_look_1 : decode cX7_look 1 = .ok (.istore 4, 2) := by decide +kernel
theorem dX7_look_3 : decode cX7_look 3 = .ok (.bipush 100, 2) := by decide +kernel
theorem dX7_look_5 : decode cX7_look 5 = .ok (.istore 5, 2) := by decide +kernel
theorem dX7_look_7 : decode cX7_look 7 = .ok (.lload_n 1, 1) := by decide +kernel
theorem dX7_look_8 : decode cX7_look 8 = .ok (.lstore 6, 2) := by decide +kernel
theorem dX7_look_10 : decode cX7_look 10 = .ok (.iconst 0, 1) := by decide +kernel
theorem dX7_look_11 : decode cX7_look 11 = .ok (.istore 8, 2) := by decide +kernel
theorem dX7_look_13 : decode cX7_look 13 = .ok (.aload_n 0, 1) := by decide +kernel
theorem dX7_look_14 : decode cX7_look 14 = .ok (.getfield 13, 3) := by decide +kernel
theorem dX7_look_17 : decode cX7_look 17 = .ok (.iload 8, 2) := by decide +kernel
theorem dX7_look_19 : decode cX7_look 19 = .ok (.iaload, 1) := by decide +kernel
theorem dX7_look_20 : decode cX7_look 20 = .ok (.ifCond .ne 10, 3) := by decide +kernel
theorem dX7_look_23 : decode cX7_look 23 = .ok (.lload 6, 2) := by decide +kernel
theorem dX7_look_25 : decode cX7_look 25 = .ok (.lconst 0, 1) := by decide +kernel
theorem dX7_look_26 : decode cX7_look 26 = .ok (.lcmp, 1) := by decide +kernel
theorem dX7_look_27 : decode cX7_look 27 = .ok (.ifCond .le 248, 3) := by decide +kernel
theorem dX7_look_30 : decode cX7_look 30 = .ok (.aload_n 0, 1) := by decide +kernel
theorem dX7_look_31 : decode cX7_look 31 = .ok (.iload 8, 2) := by decide +kernel
theorem dX7_look_33 : decode cX7_look 33 = .ok (.invokevirtual 137, 3) := by decide +kernel
theorem dX7_look_36 : decode cX7_look 36 = .ok (.ifCond .eq 19, 3) := by decide +kernel
theorem dX7_look_39 : decode cX7_look 39 = .ok (.lload 6, 2) := by decide +kernel
theorem dX7_look_41 : decode cX7_look 41 = .ok (.aload_n 0, 1) := by decide +kernel
theorem dX7_look_42 : decode cX7_look 42 = .ok (.iload 8, 2) := by decide +kernel
theorem dX7_look_44 : decode cX7_look 44 = .ok (.invokevirtual 140, 3) := by decide +kernel
theorem dX7_look_47 : decode cX7_look 47 = .ok (.lcmp, 1) := by decide +kernel
theorem dX7_look_48 : decode cX7_look 48 = .ok (.ifCond .ge 7, 3) := by decide +kernel
theorem dX7_look_51 : decode cX7_look 51 = .ok (.iconst 1, 1) := by decide +kernel
theorem dX7_look_52 : decode cX7_look 52 = .ok (.goto 4, 3) := by decide +kernel
theorem dX7_look_55 : decode cX7_look 55 = .ok (.iconst 0, 1) := by decide +kernel
theorem dX7_look_56 : decode cX7_look 56 = .ok (.istore 9, 2) := by decide +kernel
theorem dX7_look_58 : decode cX7_look 58 = .ok (.iload 9, 2) := by decide +kernel
theorem dX7_look_60 : decode cX7_look 60 = .ok (.ifCond .eq 31, 3) := by decide +kernel
theorem dX7_look_63 : decode cX7_look 63 = .ok (.aload_n 0, 1) := by decide +kernel
theorem dX7_look_64 : decode cX7_look 64 = .ok (.getfield 13, 3) := by decide +kernel
theorem dX7_look_67 : decode cX7_look 67 = .ok (.iload 8, 2) := by decide +kernel
theorem dX7_look_69 : decode cX7_look 69 = .ok (.iaload, 1) := by decide +kernel
theorem dX7_look_70 : decode cX7_look 70 = .ok (.iconst 3, 1) := by decide +kernel
theorem dX7_look_71 : decode cX7_look 71 = .ok (.if_icmp .ne 20, 3) := by decide +kernel
theorem dX7_look_74 : decode cX7_look 74 = .ok (.lload 6, 2) := by decide +kernel
theorem dX7_look_76 : decode cX7_look 76 = .ok (.aload_n 0, 1) := by decide +kernel
theorem dX7_look_77 : decode cX7_look 77 = .ok (.getfield 28, 3) := by decide +kernel
theorem dX7_look_80 : decode cX7_look 80 = .ok (.iload 8, 2) := by decide +kernel
theorem dX7_look_82 : decode cX7_look 82 = .ok (.laload, 1) := by decide +kernel
theorem dX7_look_83 : decode cX7_look 83 = .ok (.lcmp, 1) := by decide +kernel
theorem dX7_look_84 : decode cX7_look 84 = .ok (.ifCond .lt 7, 3) := by decide +kernel
theorem dX7_look_87 : decode cX7_look 87 = .ok (.iconst 1, 1) := by decide +kernel
theorem dX7_look_88 : decode cX7_look 88 = .ok (.goto 4, 3) := by decide +kernel
theorem dX7_look_91 : decode cX7_look 91 = .ok (.iconst 0, 1) := by decide +kernel
theorem dX7_look_92 : decode cX7_look 92 = .ok (.istore 10, 2) := by decide +kernel
theorem dX7_look_94 : decode cX7_look 94 = .ok (.iload 9, 2) := by decide +kernel
theorem dX7_look_96 : decode cX7_look 96 = .ok (.ifCond .eq 8, 3) := by decide +kernel
theorem dX7_look_99 : decode cX7_look 99 = .ok (.iload 10, 2) := by decide +kernel
theorem dX7_look_101 : decode cX7_look 101 = .ok (.ifCond .eq 53, 3) := by decide +kernel
theorem dX7_look_104 : decode cX7_look 104 = .ok (.aload_n 0, 1) := by decide +kernel
theorem dX7_look_105 : decode cX7_look 105 = .ok (.getfield 22, 3) := by decide +kernel
theorem dX7_look_108 : decode cX7_look 108 = .ok (.iload 8, 2) := by decide +kernel
theorem dX7_look_110 : decode cX7_look 110 = .ok (.iaload, 1) := by decide +kernel
theorem dX7_look_111 : decode cX7_look 111 = .ok (.iconst (-1), 1) := by decide +kernel
theorem dX7_look_112 : decode cX7_look 112 = .ok (.if_icmp .ne 8, 3) := by decide +kernel
theorem dX7_look_115 : decode cX7_look 115 = .ok (.iload 4, 2) := by decide +kernel
theorem dX7_look_117 : decode cX7_look 117 = .ok (.goto 10, 3) := by decide +kernel
theorem dX7_look_120 : decode cX7_look 120 = .ok (.aload_n 0, 1) := by decide +kernel
theorem dX7_look_121 : decode cX7_look 121 = .ok (.getfield 22, 3) := by decide +kernel
theorem dX7_look_124 : decode cX7_look 124 = .ok (.iload 8, 2) := by decide +kernel
theorem dX7_look_126 : decode cX7_look 126 = .ok (.iaload, 1) := by decide +kernel
theorem dX7_look_127 : decode cX7_look 127 = .ok (.istore 4, 2) := by decide +kernel
theorem dX7_look_129 : decode cX7_look 129 = .ok (.aload_n 0, 1) := by decide +kernel
theorem dX7_look_130 : decode cX7_look 130 = .ok (.getfield 25, 3) := by decide +kernel
theorem dX7_look_133 : decode cX7_look 133 = .ok (.iload 8, 2) := by decide +kernel
theorem dX7_look_135 : decode cX7_look 135 = .ok (.iaload, 1) := by decide +kernel
theorem dX7_look_136 : decode cX7_look 136 = .ok (.iconst (-1), 1) := by decide +kernel
theorem dX7_look_137 : decode cX7_look 137 = .ok (.if_icmp .ne 8, 3) := by decide +kernel
theorem dX7_look_140 : decode cX7_look 140 = .ok (.iload 5, 2) := by decide +kernel
theorem dX7_look_142 : decode cX7_look 142 = .ok (.goto 10, 3) := by decide +kernel
theorem dX7_look_145 : decode cX7_look 145 = .ok (.aload_n 0, 1) := by decide +kernel
theorem dX7_look_146 : decode cX7_look 146 = .ok (.getfield 25, 3) := by decide +kernel
theorem dX7_look_149 : decode cX7_look 149 = .ok (.iload 8, 2) := by decide +kernel
theorem dX7_look_151 : decode cX7_look 151 = .ok (.iaload, 1) := by decide +kernel
theorem dX7_look_152 : decode cX7_look 152 = .ok (.istore 5, 2) := by decide +kernel
theorem dX7_look_154 : decode cX7_look 154 = .ok (.iload 9, 2) := by decide +kernel
theorem dX7_look_156 : decode cX7_look 156 = .ok (.ifCond .ne 53, 3) := by decide +kernel
theorem dX7_look_159 : decode cX7_look 159 = .ok (.lload 6, 2) := by decide +kernel
theorem dX7_look_161 : decode cX7_look 161 = .ok (.aload_n 0, 1) := by decide +kernel
theorem dX7_look_162 : decode cX7_look 162 = .ok (.iload 8, 2) := by decide +kernel
theorem dX7_look_164 : decode cX7_look 164 = .ok (.invokevirtual 137, 3) := by decide +kernel
theorem dX7_look_167 : decode cX7_look 167 = .ok (.ifCond .eq 12, 3) := by decide +kernel
theorem dX7_look_170 : decode cX7_look 170 = .ok (.aload_n 0, 1) := by decide +kernel
theorem dX7_look_171 : decode cX7_look 171 = .ok (.iload 8, 2) := by decide +kernel
theorem dX7_look_173 : decode cX7_look 173 = .ok (.invokevirtual 140, 3) := by decide +kernel
theorem dX7_look_176 : decode cX7_look 176 = .ok (.goto 18, 3) := by decide +kernel
theorem dX7_look_179 : decode cX7_look 179 = .ok (.aload_n 0, 1) := by decide +kernel
theorem dX7_look_180 : decode cX7_look 180 = .ok (.getfield 13, 3) := by decide +kernel
theorem dX7_look_183 : decode cX7_look 183 = .ok (.iload 8, 2) := by decide +kernel
theorem dX7_look_185 : decode cX7_look 185 = .ok (.iaload, 1) := by decide +kernel
theorem dX7_look_186 : decode cX7_look 186 = .ok (.ifCond .ne 7, 3) := by decide +kernel
theorem dX7_look_189 : decode cX7_look 189 = .ok (.lconst 1, 1) := by decide +kernel
theorem dX7_look_190 : decode cX7_look 190 = .ok (.goto 4, 3) := by decide +kernel
theorem dX7_look_193 : decode cX7_look 193 = .ok (.lconst 0, 1) := by decide +kernel
theorem dX7_look_194 : decode cX7_look 194 = .ok (.lsub, 1) := by decide +kernel
theorem dX7_look_195 : decode cX7_look 195 = .ok (.lstore 6, 2) := by decide +kernel
theorem dX7_look_197 : decode cX7_look 197 = .ok (.aload_n 0, 1) := by decide +kernel
theorem dX7_look_198 : decode cX7_look 198 = .ok (.getfield 19, 3) := by decide +kernel
theorem dX7_look_201 : decode cX7_look 201 = .ok (.iload 8, 2) := by decide +kernel
theorem dX7_look_203 : decode cX7_look 203 = .ok (.iaload, 1) := by decide +kernel
theorem dX7_look_204 : decode cX7_look 204 = .ok (.istore 8, 2) := by decide +kernel
theorem dX7_look_206 : decode cX7_look 206 = .ok (.goto 66, 3) := by decide +kernel
theorem dX7_look_209 : decode cX7_look 209 = .ok (.aload_n 0, 1) := by decide +kernel
theorem dX7_look_210 : decode cX7_look 210 = .ok (.getfield 13, 3) := by decide +kernel
theorem dX7_look_213 : decode cX7_look 213 = .ok (.iload 8, 2) := by decide +kernel
theorem dX7_look_215 : decode cX7_look 215 = .ok (.iaload, 1) := by decide +kernel
theorem dX7_look_216 : decode cX7_look 216 = .ok (.iconst 3, 1) := by decide +kernel
theorem dX7_look_217 : decode cX7_look 217 = .ok (.if_icmp .ne 16, 3) := by decide +kernel
theorem dX7_look_220 : decode cX7_look 220 = .ok (.lload 6, 2) := by decide +kernel
theorem dX7_look_222 : decode cX7_look 222 = .ok (.aload_n 0, 1) := by decide +kernel
theorem dX7_look_223 : decode cX7_look 223 = .ok (.getfield 28, 3) := by decide +kernel
theorem dX7_look_226 : decode cX7_look 226 = .ok (.iload 8, 2) := by decide +kernel
theorem dX7_look_228 : decode cX7_look 228 = .ok (.laload, 1) := by decide +kernel
theorem dX7_look_229 : decode cX7_look 229 = .ok (.lrem, 1) := by decide +kernel
theorem dX7_look_230 : decode cX7_look 230 = .ok (.goto 37, 3) := by decide +kernel
theorem dX7_look_233 : decode cX7_look 233 = .ok (.lload 6, 2) := by decide +kernel
theorem dX7_look_235 : decode cX7_look 235 = .ok (.aload_n 0, 1) := by decide +kernel
theorem dX7_look_236 : decode cX7_look 236 = .ok (.getfield 28, 3) := by decide +kernel
theorem dX7_look_239 : decode cX7_look 239 = .ok (.iload 8, 2) := by decide +kernel
theorem dX7_look_241 : decode cX7_look 241 = .ok (.laload, 1) := by decide +kernel
theorem dX7_look_242 : decode cX7_look 242 = .ok (.lcmp, 1) := by decide +kernel
theorem dX7_look_243 : decode cX7_look 243 = .ok (.ifCond .ge 8, 3) := by decide +kernel
theorem dX7_look_246 : decode cX7_look 246 = .ok (.lload 6, 2) := by decide +kernel
theorem dX7_look_248 : decode cX7_look 248 = .ok (.goto 19, 3) := by decide +kernel
theorem dX7_look_251 : decode cX7_look 251 = .ok (.ldc2_w 128, 3) := by decide +kernel
theorem dX7_look_254 : decode cX7_look 254 = .ok (.aload_n 0, 1) := by decide +kernel
theorem dX7_look_255 : decode cX7_look 255 = .ok (.getfield 28, 3) := by decide +kernel
theorem dX7_look_258 : decode cX7_look 258 = .ok (.iload 8, 2) := by decide +kernel
theorem dX7_look_260 : decode cX7_look 260 = .ok (.laload, 1) := by decide +kernel
theorem dX7_look_261 : decode cX7_look 261 = .ok (.lmul, 1) := by decide +kernel
theorem dX7_look_262 : decode cX7_look 262 = .ok (.lconst 1, 1) := by decide +kernel
theorem dX7_look_263 : decode cX7_look 263 = .ok (.lsub, 1) := by decide +kernel
theorem dX7_look_264 : decode cX7_look 264 = .ok (.lload 6, 2) := by decide +kernel
theorem dX7_look_266 : decode cX7_look 266 = .ok (.lsub, 1) := by decide +kernel
theorem dX7_look_267 : decode cX7_look 267 = .ok (.lstore 6, 2) := by decide +kernel
theorem dX7_look_269 : decode cX7_look 269 = .ok (.iinc 8 1, 3) := by decide +kernel
theorem dX7_look_272 : decode cX7_look 272 = .ok (.goto (-259), 3) := by decide +kernel
theorem dX7_look_275 : decode cX7_look 275 = .ok (.iload_n 3, 1) := by decide +kernel
theorem dX7_look_276 : decode cX7_look 276 = .ok (.ifCond .ne 13, 3) := by decide +kernel
theorem dX7_look_279 : decode cX7_look 279 = .ok (.aload_n 0, 1) := by decide +kernel
theorem dX7_look_280 : decode cX7_look 280 = .ok (.getfield 16, 3) := by decide +kernel
theorem dX7_look_283 : decode cX7_look 283 = .ok (.iload 8, 2) := by decide +kernel
theorem dX7_look_285 : decode cX7_look 285 = .ok (.iaload, 1) := by decide +kernel
theorem dX7_look_286 : decode cX7_look 286 = .ok (.goto 15, 3) := by decide +kernel
theorem dX7_look_289 : decode cX7_look 289 = .ok (.iload_n 3, 1) := by decide +kernel
theorem dX7_look_290 : decode cX7_look 290 = .ok (.iconst 1, 1) := by decide +kernel
theorem dX7_look_291 : decode cX7_look 291 = .ok (.if_icmp .ne 8, 3) := by decide +kernel
theorem dX7_look_294 : decode cX7_look 294 = .ok (.iload 4, 2) := by decide +kernel
theorem dX7_look_296 : decode cX7_look 296 = .ok (.goto 5, 3) := by decide +kernel
theorem dX7_look_299 : decode cX7_look 299 = .ok (.iload 5, 2) := by decide +kernel
theorem dX7_look_301 : decode cX7_look 301 = .ok (.ireturn, 1) := by decide +kernel
set_option maxRecDepth 20000 in
theorem ggX7_design_X7_look : GoodIn wsX7_design wsX7_look := goodIn_r _ [7, 8, 9, 10, 11, 12, 13, 14, 15, 16, 17, 6, 18, 19, 20, 21, 22, 23, 24, 25, 26, 27, 28, 29, 30, 31, 32, 33, 34, 35, 36, 37, 38, 39, 40, 41, 42, 43, 44, 45, 46, 47, 48, 49, 50, 51, 52, 53, 54, 55, 56, 57, 58, 59, 60, 61, 62, 63, 64, 65, 66, 67] (by decide +kernel) (by decide +kernel)
set_option maxRecDepth 20000 in
theorem gX7_design_X7_look : GoodIn wsX7_design (wsV RX7 166 RX7 yX7_look wsX7_look) := goodIn_app (goodIn_of _ (by decide +kernel)) ggX7_design_X7_look
theorem dX7_design_0 : decode cX7_design 0 = .ok (.aload_n 0, 1) := by decide +kernel
theorem dX7_design_1 : decode cX7_design 1 = .ok (.iconst 0, 1) := by decide +kernel
theorem dX7_design_2 : decode cX7_design 2 = .ok (.putfield 74, 3) := by decide +kernel
theorem dX7_design_5 : decode cX7_design 5 = .ok (.lload_n 1, 1) := by decide +kernel
theorem dX7_design_6 : decode cX7_design 6 = .ok (.lconst 0, 1) := by decide +kernel
theorem dX7_design_7 : decode cX7_design 7 = .ok (.lcmp, 1) := by decide +kernel
theorem dX7_design_8 : decode cX7_design 8 = .ok (.ifCond .lt 21, 3) := by decide +kernel
theorem dX7_design_11 : decode cX7_design 11 = .ok (.lload_n 1, 1) := by decide +kernel
theorem dX7_design_12 : decode cX7_design 12 = .ok (.aload_n 0, 1) := by decide +kernel
theorem dX7_design_13 : decode cX7_design 13 = .ok (.getfield 130, 3) := by decide +kernel
theorem dX7_design_16 : decode cX7_design 16 = .ok (.lcmp, 1) := by decide +kernel
theorem dX7_design_17 : decode cX7_design 17 = .ok (.ifCond .ge 12, 3) := by decide +kernel
theorem dX7_design_20 : decode cX7_design 20 = .ok (.iload_n 3, 1) := by decide +kernel
theorem dX7_design_21 : decode cX7_design 21 = .ok (.ifCond .lt 8, 3) := by decide +kernel
theorem dX7_design_24 : decode cX7_design 24 = .ok (.iload_n 3, 1) := by decide +kernel
theorem dX7_design_25 : decode cX7_design 25 = .ok (.iconst 2, 1) := by decide +kernel
theorem dX7_design_26 : decode cX7_design 26 = .ok (.if_icmp .le 7, 3) := by decide +kernel
theorem dX7_design_29 : decode cX7_design 29 = .ok (.iconst (-1), 1) := by decide +kernel
theorem dX7_design_30 : decode cX7_design 30 = .ok (.goto 9, 3) := by decide +kernel
theorem dX7_design_33 : decode cX7_design 33 = .ok (.aload_n 0, 1) := by decide +kernel
theorem dX7_design_34 : decode cX7_design 34 = .ok (.lload_n 1, 1) := by decide +kernel
theorem dX7_design_35 : decode cX7_design 35 = .ok (.iload_n 3, 1) := by decide +kernel
theorem dX7_design_36 : decode cX7_design 36 = .ok (.invokevirtual 166, 3) := by decide +kernel
theorem dX7_design_39 : decode cX7_design 39 = .ok (.ireturn, 1) := by decide +kernel
theorem dX7_start_0 : decode cX7_start 0 = .ok (.aload_n 0, 1) := by decide +kernel
theorem dX7_start_1 : decode cX7_start 1 = .ok (.iconst 0, 1) := by decide +kernel
theorem dX7_start_2 : decode cX7_start 2 = .ok (.putfield 74, 3) := by decide +kernel
theorem dX7_start_5 : decode cX7_start 5 = .ok (.aload_n 0, 1) := by decide +kernel
theorem dX7_start_6 : decode cX7_start 6 = .ok (.getfield 151, 3) := by decide +kernel
theorem dX7_start_9 : decode cX7_start 9 = .ok (.ifCond .ne 19, 3) := by decide +kernel
theorem dX7_start_12 : decode cX7_start 12 = .ok (.aload_n 0, 1) := by decide +kernel
theorem dX7_start_13 : decode cX7_start 13 = .ok (.getfield 130, 3) := by decide +kernel
theorem dX7_start_16 : decode cX7_start 16 = .ok (.lconst 0, 1) := by decide +kernel
theorem dX7_start_17 : decode cX7_start 17 = .ok (.lcmp, 1) := by decide +kernel
theorem dX7_start_18 : decode cX7_start 18 = .ok (.ifCond .eq 10, 3) := by decide +kernel
theorem dX7_start_21 : decode cX7_start 21 = .ok (.aload_n 0, 1) := by decide +kernel
theorem dX7_start_22 : decode cX7_start 22 = .ok (.getfield 47, 3) := by decide +kernel
theorem dX7_start_25 : decode cX7_start 25 = .ok (.ifCond .ne 5, 3) := by decide +kernel
theorem dX7_start_28 : decode cX7_start 28 = .ok (.iconst 0, 1) := by decide +kernel
theorem dX7_start_29 : decode cX7_start 29 = .ok (.ireturn, 1) := by decide +kernel
theorem dX7_start_30 : decode cX7_start 30 = .ok (.aload_n 0, 1) := by decide +kernel
theorem dX7_start_31 : decode cX7_start 31 = .ok (.iconst 1, 1) := by decide +kernel
theorem dX7_start_32 : decode cX7_start 32 = .ok (.putfield 151, 3) := by decide +kernel
theorem dX7_start_35 : decode cX7_start 35 = .ok (.iconst 1, 1) := by decide +kernel
theorem dX7_start_36 : decode cX7_start 36 = .ok (.ireturn, 1) := by decide +kernel
theorem dX7_brakes_0 : decode cX7_brakes 0 = .ok (.aload_n 0, 1) := by decide +kernel
theorem dX7_brakes_1 : decode cX7_brakes 1 = .ok (.getfield 151, 3) := by decide +kernel
theorem dX7_brakes_4 : decode cX7_brakes 4 = .ok (.iconst 1, 1) := by decide +kernel
theorem dX7_brakes_5 : decode cX7_brakes 5 = .ok (.if_icmp .eq 4, 3) := by decide +kernel
theorem dX7_brakes_8 : decode cX7_brakes 8 = .ok (.return_, 1) := by decide +kernel
theorem dX7_brakes_9 : decode cX7_brakes 9 = .ok (.aload_n 0, 1) := by decide +kernel
theorem dX7_brakes_10 : decode cX7_brakes 10 = .ok (.iconst 2, 1) := by decide +kernel
theorem dX7_brakes_11 : decode cX7_brakes 11 = .ok (.putfield 151, 3) := by decide +kernel
theorem dX7_brakes_14 : decode cX7_brakes 14 = .ok (.aload_n 0, 1) := by decide +kernel
theorem dX7_brakes_15 : decode cX7_brakes 15 = .ok (.aload_n 0, 1) := by decide +kernel
theorem dX7_brakes_16 : decode cX7_brakes 16 = .ok (.getfield 51, 3) := by decide +kernel
theorem dX7_brakes_19 : decode cX7_brakes 19 = .ok (.iconst 2, 1) := by decide +kernel
theorem dX7_brakes_20 : decode cX7_brakes 20 = .ok (.idiv, 1) := by decide +kernel
theorem dX7_brakes_21 : decode cX7_brakes 21 = .ok (.putfield 170, 3) := by decide +kernel
theorem dX7_brakes_24 : decode cX7_brakes 24 = .ok (.aload_n 0, 1) := by decide +kernel
theorem dX7_brakes_25 : decode cX7_brakes 25 = .ok (.dup, 1) := by decide +kernel
theorem dX7_brakes_26 : decode cX7_brakes 26 = .ok (.getfield 173, 3) := by decide +kernel
theorem dX7_brakes_29 : decode cX7_brakes 29 = .ok (.iconst 1, 1) := by decide +kernel
theorem dX7_brakes_30 : decode cX7_brakes 30 = .ok (.iadd, 1) := by decide +kernel
theorem dX7_brakes_31 : decode cX7_brakes 31 = .ok (.putfield 173, 3) := by decide +kernel
theorem dX7_brakes_34 : decode cX7_brakes 34 = .ok (.return_, 1) := by decide +kernel
set_option maxRecDepth 20000 in
theorem ggX7_stop_X7_brakes : GoodIn wsX7_stop wsX7_brakes := goodIn_r _ [7, 2, 8, 9, 10, 11, 12, 13, 14, 15, 16, 17, 18, 19, 20, 21, 22, 23, 24, 25, 26, 27, 28, 29, 30, 31, 32, 33, 34, 35, 36, 37, 38, 39, 40, 41, 42, 43, 44, 45, 46, 47, 48, 49, 50, 51, 52, 53, 54] (by decide +kernel) (by decide +kernel)
set_option maxRecDepth 20000 in
theorem gX7_stop_X7_brakes : GoodIn wsX7_stop (wsV RX7 176 RX7 yX7_brakes wsX7_brakes) := goodIn_app (goodIn_of _ (by decide +kernel)) ggX7_stop_X7_brakes
theorem dX7_stop_0 : decode cX7_stop 0 = .ok (.aload_n 0, 1) := by decide +kernel
theorem dX7_stop_1 : decode cX7_stop 1 = .ok (.iconst 0, 1) := by decide +kernel
theorem dX7_stop_2 : decode cX7_stop 2 = .ok (.putfield 74, 3) := by decide +kernel
theorem dX7_stop_5 : decode cX7_stop 5 = .ok (.aload_n 0, 1) := by decide +kernel
theorem dX7_stop_6 : decode cX7_stop 6 = .ok (.getfield 151, 3) := by decide +kernel
theorem dX7_stop_9 : decode cX7_stop 9 = .ok (.iconst 1, 1) := by decide +kernel
theorem dX7_stop_10 : decode cX7_stop 10 = .ok (.if_icmp .eq 5, 3) := by decide +kernel
theorem dX7_stop_13 : decode cX7_stop 13 = .ok (.iconst 0, 1) := by decide +kernel
theorem dX7_stop_14 : decode cX7_stop 14 = .ok (.ireturn, 1) := by decide +kernel
theorem dX7_stop_15 : decode cX7_stop 15 = .ok (.aload_n 0, 1) := by decide +kernel
theorem dX7_stop_16 : decode cX7_stop 16 = .ok (.invokevirtual 176, 3) := by decide +kernel
theorem dX7_stop_19 : decode cX7_stop 19 = .ok (.iconst 1, 1) := by decide +kernel
theorem dX7_stop_20 : decode cX7_stop 20 = .ok (.ireturn, 1) := by decide +kernel
theorem dX7_record_0 : decode cX7_record 0 = .ok (.aload_n 0, 1) := by decide +kernel
theorem dX7_record_1 : decode cX7_record 1 = .ok (.iconst 1, 1) := by decide +kernel
theorem dX7_record_2 : decode cX7_record 2 = .ok (.aload_n 0, 1) := by decide +kernel
theorem dX7_record_3 : decode cX7_record 3 = .ok (.getfield 179, 3) := by decide +kernel
theorem dX7_record_6 : decode cX7_record 6 = .ok (.isub, 1) := by decide +kernel
theorem dX7_record_7 : decode cX7_record 7 = .ok (.putfield 179, 3) := by decide +kernel
theorem dX7_record_10 : decode cX7_record 10 = .ok (.aload_n 0, 1) := by decide +kernel
theorem dX7_record_11 : decode cX7_record 11 = .ok (.getfield 64, 3) := by decide +kernel
theorem dX7_record_14 : decode cX7_record 14 = .ok (.aload_n 0, 1) := by decide +kernel
theorem dX7_record_15 : decode cX7_record 15 = .ok (.getfield 179, 3) := by decide +kernel
theorem dX7_record_18 : decode cX7_record 18 = .ok (.iconst 1, 1) := by decide +kernel
theorem dX7_record_19 : decode cX7_record 19 = .ok (.bastore, 1) := by decide +kernel
theorem dX7_record_20 : decode cX7_record 20 = .ok (.aload_n 0, 1) := by decide +kernel
theorem dX7_record_21 : decode cX7_record 21 = .ok (.getfield 68, 3) := by decide +kernel
theorem dX7_record_24 : decode cX7_record 24 = .ok (.aload_n 0, 1) := by decide +kernel
theorem dX7_record_25 : decode cX7_record 25 = .ok (.getfield 179, 3) := by decide +kernel
theorem dX7_record_28 : decode cX7_record 28 = .ok (.iload_n 1, 1) := by decide +kernel
theorem dX7_record_29 : decode cX7_record 29 = .ok (.bastore, 1) := by decide +kernel
theorem dX7_record_30 : decode cX7_record 30 = .ok (.aload_n 0, 1) := by decide +kernel
theorem dX7_record_31 : decode cX7_record 31 = .ok (.getfield 71, 3) := by decide +kernel
theorem dX7_record_34 : decode cX7_record 34 = .ok (.aload_n 0, 1) := by decide +kernel
theorem dX7_record_35 : decode cX7_record 35 = .ok (.getfield 179, 3) := by decide +kernel
theorem dX7_record_38 : decode cX7_record 38 = .ok (.aload_n 0, 1) := by decide +kernel
theorem dX7_record_39 : decode cX7_record 39 = .ok (.getfield 163, 3) := by decide +kernel
theorem dX7_record_42 : decode cX7_record 42 = .ok (.lastore, 1) := by decide +kernel
theorem dX7_record_43 : decode cX7_record 43 = .ok (.return_, 1) := by decide +kernel
set_option maxRecDepth 20000 in
theorem ggX7_beatUp_X7_look : GoodIn wsX7_beatUp wsX7_look := goodIn_r _ [15, 16, 17, 18, 19, 20, 21, 22, 23, 24, 25, 14, 26, 27, 28, 29, 30, 31, 32, 33, 34, 35, 36, 37, 38, 39, 40, 41, 42, 43, 44, 45, 46, 47, 48, 49, 50, 51, 52, 53, 54, 55, 56, 57, 58, 59, 60, 61, 62, 63, 64, 65, 66, 67, 68, 69, 70, 71, 72, 73, 74, 75] (by decide +kernel) (by decide +kernel)
set_option maxRecDepth 20000 in
theorem gX7_beatUp_X7_look : GoodIn wsX7_beatUp (wsV RX7 166 RX7 yX7_look wsX7_look) := goodIn_app (goodIn_of _ (by decide +kernel)) ggX7_beatUp_X7_look
theorem dX7_beatUp_0 : decode cX7_beatUp 0 = .ok (.aload_n 0, 1) := by decide +kernel
theorem dX7_beatUp_1 : decode cX7_beatUp 1 = .ok (.aload_n 0, 1) := by decide +kernel
theorem dX7_beatUp_2 : decode cX7_beatUp 2 = .ok (.getfield 163, 3) := by decide +kernel
theorem dX7_beatUp_5 : decode cX7_beatUp 5 = .ok (.iconst 2, 1) := by decide +kernel
theorem dX7_beatUp_6 : decode cX7_beatUp 6 = .ok (.invokevirtual 166, 3) := by decide +kernel
theorem dX7_beatUp_9 : decode cX7_beatUp 9 = .ok (.istore_n 1, 1) := by decide +kernel
theorem dX7_beatUp_10 : decode cX7_beatUp 10 = .ok (.aload_n 0, 1) := by decide +kernel
theorem dX7_beatUp_11 : decode cX7_beatUp 11 = .ok (.getfield 182, 3) := by decide +kernel
theorem dX7_beatUp_14 : decode cX7_beatUp 14 = .ok (.bipush 64, 2) := by decide +kernel
theorem dX7_beatUp_16 : decode cX7_beatUp 16 = .ok (.if_icmp .ne 69, 3) := by decide +kernel
theorem dX7_beatUp_19 : decode cX7_beatUp 19 = .ok (.iconst 1, 1) := by decide +kernel
theorem dX7_beatUp_20 : decode cX7_beatUp 20 = .ok (.istore_n 2, 1) := by decide +kernel
theorem dX7_beatUp_21 : decode cX7_beatUp 21 = .ok (.iload_n 2, 1) := by decide +kernel
theorem dX7_beatUp_22 : decode cX7_beatUp 22 = .ok (.bipush 64, 2) := by decide +kernel
theorem dX7_beatUp_24 : decode cX7_beatUp 24 = .ok (.if_icmp .ge 51, 3) := by decide +kernel
theorem dX7_beatUp_27 : decode cX7_beatUp 27 = .ok (.aload_n 0, 1) := by decide +kernel
theorem dX7_beatUp_28 : decode cX7_beatUp 28 = .ok (.getfield 55, 3) := by decide +kernel
theorem dX7_beatUp_31 : decode cX7_beatUp 31 = .ok (.iload_n 2, 1) := by decide +kernel
theorem dX7_beatUp_32 : decode cX7_beatUp 32 = .ok (.iconst 1, 1) := by decide +kernel
theorem dX7_beatUp_33 : decode cX7_beatUp 33 = .ok (.isub, 1) := by decide +kernel
theorem dX7_beatUp_34 : decode cX7_beatUp 34 = .ok (.aload_n 0, 1) := by decide +kernel
theorem dX7_beatUp_35 : decode cX7_beatUp 35 = .ok (.getfield 55, 3) := by decide +kernel
theorem dX7_beatUp_38 : decode cX7_beatUp 38 = .ok (.iload_n 2, 1) := by decide +kernel
theorem dX7_beatUp_39 : decode cX7_beatUp 39 = .ok (.iaload, 1) := by decide +kernel
theorem dX7_beatUp_40 : decode cX7_beatUp 40 = .ok (.iastore, 1) := by decide +kernel
theorem dX7_beatUp_41 : decode cX7_beatUp 41 = .ok (.aload_n 0, 1) := by decide +kernel
theorem dX7_beatUp_42 : decode cX7_beatUp 42 = .ok (.getfield 58, 3) := by decide +kernel
theorem dX7_beatUp_45 : decode cX7_beatUp 45 = .ok (.iload_n 2, 1) := by decide +kernel
theorem dX7_beatUp_46 : decode cX7_beatUp 46 = .ok (.iconst 1, 1) := by decide +kernel
theorem dX7_beatUp_47 : decode cX7_beatUp 47 = .ok (.isub, 1) := by decide +kernel
theorem dX7_beatUp_48 : decode cX7_beatUp 48 = .ok (.aload_n 0, 1) := by decide +kernel
theorem dX7_beatUp_49 : decode cX7_beatUp 49 = .ok (.getfield 58, 3) := by decide +kernel
theorem dX7_beatUp_52 : decode cX7_beatUp 52 = .ok (.iload_n 2, 1) := by decide +kernel
theorem dX7_beatUp_53 : decode cX7_beatUp 53 = .ok (.iaload, 1) := by decide +kernel
theorem dX7_beatUp_54 : decode cX7_beatUp 54 = .ok (.iastore, 1) := by decide +kernel
theorem dX7_beatUp_55 : decode cX7_beatUp 55 = .ok (.aload_n 0, 1) := by decide +kernel
theorem dX7_beatUp_56 : decode cX7_beatUp 56 = .ok (.getfield 61, 3) := by decide +kernel
theorem dX7_beatUp_59 : decode cX7_beatUp 59 = .ok (.iload_n 2, 1) := by decide +kernel
theorem dX7_beatUp_60 : decode cX7_beatUp 60 = .ok (.iconst 1, 1) := by decide +kernel
theorem dX7_beatUp_61 : decode cX7_beatUp 61 = .ok (.isub, 1) := by decide +kernel
theorem dX7_beatUp_62 : decode cX7_beatUp 62 = .ok (.aload_n 0, 1) := by decide +kernel
theorem dX7_beatUp_63 : decode cX7_beatUp 63 = .ok (.getfield 61, 3) := by decide +kernel
theorem dX7_beatUp_66 : decode cX7_beatUp 66 = .ok (.iload_n 2, 1) := by decide +kernel
theorem dX7_beatUp_67 : decode cX7_beatUp 67 = .ok (.iaload, 1) := by decide +kernel
theorem dX7_beatUp_68 : decode cX7_beatUp 68 = .ok (.iastore, 1) := by decide +kernel
theorem dX7_beatUp_69 : decode cX7_beatUp 69 = .ok (.iinc 2 1, 3) := by decide +kernel
theorem dX7_beatUp_72 : decode cX7_beatUp 72 = .ok (.goto (-51), 3) := by decide +kernel
theorem dX7_beatUp_75 : decode cX7_beatUp 75 = .ok (.aload_n 0, 1) := by decide +kernel
theorem dX7_beatUp_76 : decode cX7_beatUp 76 = .ok (.dup, 1) := by decide +kernel
theorem dX7_beatUp_77 : decode cX7_beatUp 77 = .ok (.getfield 182, 3) := by decide +kernel
theorem dX7_beatUp_80 : decode cX7_beatUp 80 = .ok (.iconst 1, 1) := by decide +kernel
theorem dX7_beatUp_81 : decode cX7_beatUp 81 = .ok (.isub, 1) := by decide +kernel
theorem dX7_beatUp_82 : decode cX7_beatUp 82 = .ok (.putfield 182, 3) := by decide +kernel
theorem dX7_beatUp_85 : decode cX7_beatUp 85 = .ok (.aload_n 0, 1) := by decide +kernel
theorem dX7_beatUp_86 : decode cX7_beatUp 86 = .ok (.getfield 55, 3) := by decide +kernel
theorem dX7_beatUp_89 : decode cX7_beatUp 89 = .ok (.aload_n 0, 1) := by decide +kernel
theorem dX7_beatUp_90 : decode cX7_beatUp 90 = .ok (.getfield 182, 3) := by decide +kernel
theorem dX7_beatUp_93 : decode cX7_beatUp 93 = .ok (.aload_n 0, 1) := by decide +kernel
theorem dX7_beatUp_94 : decode cX7_beatUp 94 = .ok (.getfield 185, 3) := by decide +kernel
theorem dX7_beatUp_97 : decode cX7_beatUp 97 = .ok (.iastore, 1) := by decide +kernel
theorem dX7_beatUp_98 : decode cX7_beatUp 98 = .ok (.aload_n 0, 1) := by decide +kernel
theorem dX7_beatUp_99 : decode cX7_beatUp 99 = .ok (.getfield 58, 3) := by decide +kernel
theorem dX7_beatUp_102 : decode cX7_beatUp 102 = .ok (.aload_n 0, 1) := by decide +kernel
theorem dX7_beatUp_103 : decode cX7_beatUp 103 = .ok (.getfield 182, 3) := by decide +kernel
theorem dX7_beatUp_106 : decode cX7_beatUp 106 = .ok (.aload_n 0, 1) := by decide +kernel
theorem dX7_beatUp_107 : decode cX7_beatUp 107 = .ok (.getfield 188, 3) := by decide +kernel
theorem dX7_beatUp_110 : decode cX7_beatUp 110 = .ok (.iastore, 1) := by decide +kernel
theorem dX7_beatUp_111 : decode cX7_beatUp 111 = .ok (.aload_n 0, 1) := by decide +kernel
theorem dX7_beatUp_112 : decode cX7_beatUp 112 = .ok (.getfield 61, 3) := by decide +kernel
theorem dX7_beatUp_115 : decode cX7_beatUp 115 = .ok (.aload_n 0, 1) := by decide +kernel
theorem dX7_beatUp_116 : decode cX7_beatUp 116 = .ok (.getfield 182, 3) := by decide +kernel
theorem dX7_beatUp_119 : decode cX7_beatUp 119 = .ok (.iload_n 1, 1) := by decide +kernel
theorem dX7_beatUp_120 : decode cX7_beatUp 120 = .ok (.iastore, 1) := by decide +kernel
theorem dX7_beatUp_121 : decode cX7_beatUp 121 = .ok (.aload_n 0, 1) := by decide +kernel
theorem dX7_beatUp_122 : decode cX7_beatUp 122 = .ok (.dup, 1) := by decide +kernel
theorem dX7_beatUp_123 : decode cX7_beatUp 123 = .ok (.getfield 182, 3) := by decide +kernel
theorem dX7_beatUp_126 : decode cX7_beatUp 126 = .ok (.iconst 1, 1) := by decide +kernel
theorem dX7_beatUp_127 : decode cX7_beatUp 127 = .ok (.iadd, 1) := by decide +kernel
theorem dX7_beatUp_128 : decode cX7_beatUp 128 = .ok (.putfield 182, 3) := by decide +kernel
theorem dX7_beatUp_131 : decode cX7_beatUp 131 = .ok (.aload_n 0, 1) := by decide +kernel
theorem dX7_beatUp_132 : decode cX7_beatUp 132 = .ok (.dup, 1) := by decide +kernel
theorem dX7_beatUp_133 : decode cX7_beatUp 133 = .ok (.getfield 191, 3) := by decide +kernel
theorem dX7_beatUp_136 : decode cX7_beatUp 136 = .ok (.sipush 4000, 3) := by decide +kernel
theorem dX7_beatUp_139 : decode cX7_beatUp 139 = .ok (.iload_n 1, 1) := by decide +kernel
theorem dX7_beatUp_140 : decode cX7_beatUp 140 = .ok (.idiv, 1) := by decide +kernel
theorem dX7_beatUp_141 : decode cX7_beatUp 141 = .ok (.i2l, 1) := by decide +kernel
theorem dX7_beatUp_142 : decode cX7_beatUp 142 = .ok (.ladd, 1) := by decide +kernel
theorem dX7_beatUp_143 : decode cX7_beatUp 143 = .ok (.putfield 191, 3) := by decide +kernel
theorem dX7_beatUp_146 : decode cX7_beatUp 146 = .ok (.aload_n 0, 1) := by decide +kernel
theorem dX7_beatUp_147 : decode cX7_beatUp 147 = .ok (.dup, 1) := by decide +kernel
theorem dX7_beatUp_148 : decode cX7_beatUp 148 = .ok (.getfield 194, 3) := by decide +kernel
theorem dX7_beatUp_151 : decode cX7_beatUp 151 = .ok (.lconst 1, 1) := by decide +kernel
theorem dX7_beatUp_152 : decode cX7_beatUp 152 = .ok (.ladd, 1) := by decide +kernel
theorem dX7_beatUp_153 : decode cX7_beatUp 153 = .ok (.putfield 194, 3) := by decide +kernel
theorem dX7_beatUp_156 : decode cX7_beatUp 156 = .ok (.aload_n 0, 1) := by decide +kernel
theorem dX7_beatUp_157 : decode cX7_beatUp 157 = .ok (.aload_n 0, 1) := by decide +kernel
theorem dX7_beatUp_158 : decode cX7_beatUp 158 = .ok (.getfield 163, 3) := by decide +kernel
theorem dX7_beatUp_161 : decode cX7_beatUp 161 = .ok (.lconst 1, 1) := by decide +kernel
theorem dX7_beatUp_162 : decode cX7_beatUp 162 = .ok (.ladd, 1) := by decide +kernel
theorem dX7_beatUp_163 : decode cX7_beatUp 163 = .ok (.aload_n 0, 1) := by decide +kernel
theorem dX7_beatUp_164 : decode cX7_beatUp 164 = .ok (.getfield 130, 3) := by decide +kernel
theorem dX7_beatUp_167 : decode cX7_beatUp 167 = .ok (.lcmp, 1) := by decide +kernel
theorem dX7_beatUp_168 : decode cX7_beatUp 168 = .ok (.ifCond .ne 7, 3) := by decide +kernel
theorem dX7_beatUp_171 : decode cX7_beatUp 171 = .ok (.lconst 0, 1) := by decide +kernel
theorem dX7_beatUp_172 : decode cX7_beatUp 172 = .ok (.goto 9, 3) := by decide +kernel
theorem dX7_beatUp_175 : decode cX7_beatUp 175 = .ok (.aload_n 0, 1) := by decide +kernel
theorem dX7_beatUp_176 : decode cX7_beatUp 176 = .ok (.getfield 163, 3) := by decide +kernel
theorem dX7_beatUp_179 : decode cX7_beatUp 179 = .ok (.lconst 1, 1) := by decide +kernel
theorem dX7_beatUp_180 : decode cX7_beatUp 180 = .ok (.ladd, 1) := by decide +kernel
theorem dX7_beatUp_181 : decode cX7_beatUp 181 = .ok (.putfield 163, 3) := by decide +kernel
theorem dX7_beatUp_184 : decode cX7_beatUp 184 = .ok (.return_, 1) := by decide +kernel
set_option maxRecDepth 20000 in
theorem ggX7_comes_X7_look : GoodIn wsX7_comes wsX7_look := goodIn_r _ [12, 13, 14, 15, 16, 17, 18, 19, 20, 21, 22, 11, 23, 24, 25, 26, 27, 28, 56, 57, 58, 59, 60, 61, 62, 63, 64, 65, 66, 67, 68, 69, 70, 71, 72, 73, 74, 75, 76, 77, 78, 79, 80, 81, 82, 83, 84, 85, 86, 87, 88, 89, 90, 91, 92, 93, 94, 95, 96, 97, 98, 99] (by decide +kernel) (by decide +kernel)
set_option maxRecDepth 20000 in
theorem gX7_comes_X7_look : GoodIn wsX7_comes (wsV RX7 166 RX7 yX7_look wsX7_look) := goodIn_app (goodIn_of _ (by decide +kernel)) ggX7_comes_X7_look
set_option maxRecDepth 20000 in
theorem ggX7_comes_X7_brakes : GoodIn wsX7_comes wsX7_brakes := goodIn_r _ [32, 33, 34, 35, 36, 56, 57, 58, 59, 60, 61, 62, 63, 64, 65, 66, 67, 68, 69, 70, 71, 72, 73, 74, 75, 76, 77, 78, 79, 80, 81, 82, 83, 84, 85, 86, 87, 88, 89, 90, 91, 92, 93, 94, 95, 96, 97, 98, 99] (by decide +kernel) (by decide +kernel)
set_option maxRecDepth 20000 in
theorem gX7_comes_X7_brakes : GoodIn wsX7_comes (wsV RX7 176 RX7 yX7_brakes wsX7_brakes) := goodIn_app (goodIn_of _ (by decide +kernel)) ggX7_comes_X7_brakes
set_option maxRecDepth 20000 in
theorem ggX7_comes_X7_record : GoodIn wsX7_comes wsX7_record := goodIn_r _ [40, 41, 42, 43, 44, 1, 56, 57, 58, 59, 60, 61, 62, 63, 64, 65, 66, 67, 68, 69, 70, 71, 72, 73, 74, 75, 76, 77, 78, 79, 80, 81, 82, 83, 84, 85, 86, 87, 88, 89, 90, 91, 92, 93, 94, 95, 96, 97, 98, 99] (by decide +kernel) (by decide +kernel)
set_option maxRecDepth 20000 in
theorem gX7_comes_X7_record : GoodIn wsX7_comes (wsV RX7 203 RX7 yX7_record wsX7_record) := goodIn_app (goodIn_of _ (by decide +kernel)) ggX7_comes_X7_record
set_option maxRecDepth 20000 in
theorem ggX7_comes_X7_beatUp : GoodIn wsX7_comes wsX7_beatUp := goodIn_r _ [48, 1, 49, 50, 51, 52, 5, 2, 53, 54, 55, 8, 9, 10, 11, 12, 13, 14, 15, 16, 17, 18, 19, 20, 21, 22, 23, 24, 25, 26, 27, 28, 56, 57, 58, 59, 60, 61, 62, 63, 64, 65, 66, 67, 68, 69, 70, 71, 72, 73, 74, 75, 76, 77, 78, 79, 80, 81, 82, 83, 84, 85, 86, 87, 88, 89, 90, 91, 92, 93, 94, 95, 96, 97, 98, 99] (by decide +kernel) (by decide +kernel)
set_option maxRecDepth 20000 in
theorem gX7_comes_X7_beatUp : GoodIn wsX7_comes (wsV RX7 207 RX7 yX7_beatUp wsX7_beatUp) := goodIn_app (goodIn_of _ (by decide +kernel)) ggX7_comes_X7_beatUp
theorem dX7_comes_0 : decode cX7_comes 0 = .ok (.iload_n 1, 1) := by decide +kernel
theorem dX7_comes_1 : decode cX7_comes 1 = .ok (.sipush 480, 3) := by decide +kernel
theorem dX7_comes_4 : decode cX7_comes 4 = .ok (.if_icmp .ne 19, 3) := by decide +kernel
theorem dX7_comes_7 : decode cX7_comes 7 = .ok (.aload_n 0, 1) := by decide +kernel
theorem dX7_comes_8 : decode cX7_comes 8 = .ok (.aload_n 0, 1) := by decide +kernel
theorem dX7_comes_9 : decode cX7_comes 9 = .ok (.aload_n 0, 1) := by decide +kernel
theorem dX7_comes_10 : decode cX7_comes 10 = .ok (.getfield 163, 3) := by decide +kernel
theorem dX7_comes_13 : decode cX7_comes 13 = .ok (.iconst 1, 1) := by decide +kernel
theorem dX7_comes_14 : decode cX7_comes 14 = .ok (.invokevirtual 166, 3) := by decide +kernel
theorem dX7_comes_17 : decode cX7_comes 17 = .ok (.putfield 188, 3) := by decide +kernel
theorem dX7_comes_20 : decode cX7_comes 20 = .ok (.goto 127, 3) := by decide +kernel
theorem dX7_comes_23 : decode cX7_comes 23 = .ok (.iload_n 1, 1) := by decide +kernel
theorem dX7_comes_24 : decode cX7_comes 24 = .ok (.sipush 1440, 3) := by decide +kernel
theorem dX7_comes_27 : decode cX7_comes 27 = .ok (.if_icmp .ne 38, 3) := by decide +kernel
theorem dX7_comes_30 : decode cX7_comes 30 = .ok (.aload_n 0, 1) := by decide +kernel
theorem dX7_comes_31 : decode cX7_comes 31 = .ok (.aload_n 0, 1) := by decide +kernel
theorem dX7_comes_32 : decode cX7_comes 32 = .ok (.getfield 197, 3) := by decide +kernel
theorem dX7_comes_35 : decode cX7_comes 35 = .ok (.ifCond .eq 7, 3) := by decide +kernel
theorem dX7_comes_38 : decode cX7_comes 38 = .ok (.iconst 2, 1) := by decide +kernel
theorem dX7_comes_39 : decode cX7_comes 39 = .ok (.goto 4, 3) := by decide +kernel
theorem dX7_comes_42 : decode cX7_comes 42 = .ok (.iconst 1, 1) := by decide +kernel
theorem dX7_comes_43 : decode cX7_comes 43 = .ok (.putfield 200, 3) := by decide +kernel
theorem dX7_comes_46 : decode cX7_comes 46 = .ok (.aload_n 0, 1) := by decide +kernel
theorem dX7_comes_47 : decode cX7_comes 47 = .ok (.getfield 197, 3) := by decide +kernel
theorem dX7_comes_50 : decode cX7_comes 50 = .ok (.ifCond .eq 7, 3) := by decide +kernel
theorem dX7_comes_53 : decode cX7_comes 53 = .ok (.aload_n 0, 1) := by decide +kernel
theorem dX7_comes_54 : decode cX7_comes 54 = .ok (.invokevirtual 176, 3) := by decide +kernel
theorem dX7_comes_57 : decode cX7_comes 57 = .ok (.aload_n 0, 1) := by decide +kernel
theorem dX7_comes_58 : decode cX7_comes 58 = .ok (.iconst 0, 1) := by decide +kernel
theorem dX7_comes_59 : decode cX7_comes 59 = .ok (.putfield 197, 3) := by decide +kernel
theorem dX7_comes_62 : decode cX7_comes 62 = .ok (.goto 85, 3) := by decide +kernel
theorem dX7_comes_65 : decode cX7_comes 65 = .ok (.iload_n 1, 1) := by decide +kernel
theorem dX7_comes_66 : decode cX7_comes 66 = .ok (.sipush 4800, 3) := by decide +kernel
theorem dX7_comes_69 : decode cX7_comes 69 = .ok (.if_icmp .ne 24, 3) := by decide +kernel
theorem dX7_comes_72 : decode cX7_comes 72 = .ok (.aload_n 0, 1) := by decide +kernel
theorem dX7_comes_73 : decode cX7_comes 73 = .ok (.aload_n 0, 1) := by decide +kernel
theorem dX7_comes_74 : decode cX7_comes 74 = .ok (.aload_n 0, 1) := by decide +kernel
theorem dX7_comes_75 : decode cX7_comes 75 = .ok (.getfield 163, 3) := by decide +kernel
theorem dX7_comes_78 : decode cX7_comes 78 = .ok (.iconst 0, 1) := by decide +kernel
theorem dX7_comes_79 : decode cX7_comes 79 = .ok (.invokevirtual 166, 3) := by decide +kernel
theorem dX7_comes_82 : decode cX7_comes 82 = .ok (.putfield 185, 3) := by decide +kernel
theorem dX7_comes_85 : decode cX7_comes 85 = .ok (.aload_n 0, 1) := by decide +kernel
theorem dX7_comes_86 : decode cX7_comes 86 = .ok (.iconst 1, 1) := by decide +kernel
theorem dX7_comes_87 : decode cX7_comes 87 = .ok (.invokevirtual 203, 3) := by decide +kernel
theorem dX7_comes_90 : decode cX7_comes 90 = .ok (.goto 57, 3) := by decide +kernel
theorem dX7_comes_93 : decode cX7_comes 93 = .ok (.aload_n 0, 1) := by decide +kernel
theorem dX7_comes_94 : decode cX7_comes 94 = .ok (.getfield 200, 3) := by decide +kernel
theorem dX7_comes_97 : decode cX7_comes 97 = .ok (.iconst 1, 1) := by decide +kernel
theorem dX7_comes_98 : decode cX7_comes 98 = .ok (.if_icmp .ne 7, 3) := by decide +kernel
theorem dX7_comes_101 : decode cX7_comes 101 = .ok (.aload_n 0, 1) := by decide +kernel
theorem dX7_comes_102 : decode cX7_comes 102 = .ok (.invokevirtual 207, 3) := by decide +kernel
theorem dX7_comes_105 : decode cX7_comes 105 = .ok (.aload_n 0, 1) := by decide +kernel
theorem dX7_comes_106 : decode cX7_comes 106 = .ok (.dup, 1) := by decide +kernel
theorem dX7_comes_107 : decode cX7_comes 107 = .ok (.getfield 210, 3) := by decide +kernel
theorem dX7_comes_110 : decode cX7_comes 110 = .ok (.aload_n 0, 1) := by decide +kernel
theorem dX7_comes_111 : decode cX7_comes 111 = .ok (.getfield 200, 3) := by decide +kernel
theorem dX7_comes_114 : decode cX7_comes 114 = .ok (.iconst 2, 1) := by decide +kernel
theorem dX7_comes_115 : decode cX7_comes 115 = .ok (.if_icmp .ne 7, 3) := by decide +kernel
theorem dX7_comes_118 : decode cX7_comes 118 = .ok (.iconst 1, 1) := by decide +kernel
theorem dX7_comes_119 : decode cX7_comes 119 = .ok (.goto 4, 3) := by decide +kernel
theorem dX7_comes_122 : decode cX7_comes 122 = .ok (.iconst 0, 1) := by decide +kernel
theorem dX7_comes_123 : decode cX7_comes 123 = .ok (.iadd, 1) := by decide +kernel
theorem dX7_comes_124 : decode cX7_comes 124 = .ok (.putfield 210, 3) := by decide +kernel
theorem dX7_comes_127 : decode cX7_comes 127 = .ok (.aload_n 0, 1) := by decide +kernel
theorem dX7_comes_128 : decode cX7_comes 128 = .ok (.iconst 0, 1) := by decide +kernel
theorem dX7_comes_129 : decode cX7_comes 129 = .ok (.putfield 200, 3) := by decide +kernel
theorem dX7_comes_132 : decode cX7_comes 132 = .ok (.aload_n 0, 1) := by decide +kernel
theorem dX7_comes_133 : decode cX7_comes 133 = .ok (.iconst 0, 1) := by decide +kernel
theorem dX7_comes_134 : decode cX7_comes 134 = .ok (.invokevirtual 203, 3) := by decide +kernel
theorem dX7_comes_137 : decode cX7_comes 137 = .ok (.aload_n 0, 1) := by decide +kernel
theorem dX7_comes_138 : decode cX7_comes 138 = .ok (.dup, 1) := by decide +kernel
theorem dX7_comes_139 : decode cX7_comes 139 = .ok (.getfield 213, 3) := by decide +kernel
theorem dX7_comes_142 : decode cX7_comes 142 = .ok (.lconst 1, 1) := by decide +kernel
theorem dX7_comes_143 : decode cX7_comes 143 = .ok (.ladd, 1) := by decide +kernel
theorem dX7_comes_144 : decode cX7_comes 144 = .ok (.putfield 213, 3) := by decide +kernel
theorem dX7_comes_147 : decode cX7_comes 147 = .ok (.return_, 1) := by decide +kernel
theorem dX7_above_0 : decode cX7_above 0 = .ok (.iload_n 0, 1) := by decide +kernel
theorem dX7_above_1 : decode cX7_above 1 = .ok (.sipush 480, 3) := by decide +kernel
theorem dX7_above_4 : decode cX7_above 4 = .ok (.if_icmp .ge 9, 3) := by decide +kernel
theorem dX7_above_7 : decode cX7_above 7 = .ok (.sipush 480, 3) := by decide +kernel
theorem dX7_above_10 : decode cX7_above 10 = .ok (.goto 32, 3) := by decide +kernel
theorem dX7_above_13 : decode cX7_above 13 = .ok (.iload_n 0, 1) := by decide +kernel
theorem dX7_above_14 : decode cX7_above 14 = .ok (.sipush 1440, 3) := by decide +kernel
theorem dX7_above_17 : decode cX7_above 17 = .ok (.if_icmp .ge 9, 3) := by decide +kernel
theorem dX7_above_20 : decode cX7_above 20 = .ok (.sipush 1440, 3) := by decide +kernel
theorem dX7_above_23 : decode cX7_above 23 = .ok (.goto 19, 3) := by decide +kernel
theorem dX7_above_26 : decode cX7_above 26 = .ok (.iload_n 0, 1) := by decide +kernel
theorem dX7_above_27 : decode cX7_above 27 = .ok (.sipush 4800, 3) := by decide +kernel
theorem dX7_above_30 : decode cX7_above 30 = .ok (.if_icmp .ge 9, 3) := by decide +kernel
theorem dX7_above_33 : decode cX7_above 33 = .ok (.sipush 4800, 3) := by decide +kernel
theorem dX7_above_36 : decode cX7_above 36 = .ok (.goto 6, 3) := by decide +kernel
theorem dX7_above_39 : decode cX7_above 39 = .ok (.sipush 5760, 3) := by decide +kernel
theorem dX7_above_42 : decode cX7_above 42 = .ok (.ireturn, 1) := by decide +kernel
set_option maxRecDepth 20000 in
theorem ggX7_turn_X7_above : GoodIn wsX7_turn wsX7_above := goodIn_r _ [12] (by decide +kernel) (by decide +kernel)
set_option maxRecDepth 20000 in
theorem gX7_turn_X7_above : GoodIn wsX7_turn (va_wsS RX7 223 yX7_above wsX7_above) := goodIn_app (goodIn_of _ (by decide +kernel)) ggX7_turn_X7_above
set_option maxRecDepth 20000 in
theorem ggX7_turn_X7_comes : GoodIn wsX7_turn wsX7_comes := goodIn_r _ [16, 17, 18, 19, 20, 21, 22, 23, 24, 25, 26, 11, 27, 28, 29, 30, 31, 32, 33, 34, 35, 36, 37, 38, 39, 40, 41, 42, 43, 44, 45, 46, 47, 1, 48, 7, 49, 50, 51, 52, 53, 54, 55, 56, 57, 58, 59, 60, 61, 62, 63, 64, 65, 66, 67, 68, 69, 70, 71, 72, 73, 74, 75, 76, 77, 78, 79, 80, 81, 82, 83, 84, 85, 86, 87, 88, 89, 90, 91, 92, 93, 94, 95, 96, 97, 98, 99, 100, 101, 102, 103, 104, 105, 106, 107, 108, 109, 110, 111, 112] (by decide +kernel) (by decide +kernel)
set_option maxRecDepth 20000 in
theorem gX7_turn_X7_comes : GoodIn wsX7_turn (wsV RX7 226 RX7 yX7_comes wsX7_comes) := goodIn_app (goodIn_of _ (by decide +kernel)) ggX7_turn_X7_comes
theorem dX7_turn_0 : decode cX7_turn 0 = .ok (.aload_n 0, 1) := by decide +kernel
theorem dX7_turn_1 : decode cX7_turn 1 = .ok (.getfield 151, 3) := by decide +kernel
theorem dX7_turn_4 : decode cX7_turn 4 = .ok (.ifCond .eq 10, 3) := by decide +kernel
theorem dX7_turn_7 : decode cX7_turn 7 = .ok (.aload_n 0, 1) := by decide +kernel
theorem dX7_turn_8 : decode cX7_turn 8 = .ok (.getfield 47, 3) := by decide +kernel
theorem dX7_turn_11 : decode cX7_turn 11 = .ok (.ifCond .ne 7, 3) := by decide +kernel
theorem dX7_turn_14 : decode cX7_turn 14 = .ok (.iconst 1, 1) := by decide +kernel
theorem dX7_turn_15 : decode cX7_turn 15 = .ok (.goto 4, 3) := by decide +kernel
theorem dX7_turn_18 : decode cX7_turn 18 = .ok (.iconst 0, 1) := by decide +kernel
theorem dX7_turn_19 : decode cX7_turn 19 = .ok (.istore_n 3, 1) := by decide +kernel
theorem dX7_turn_20 : decode cX7_turn 20 = .ok (.dload_n 1, 1) := by decide +kernel
theorem dX7_turn_21 : decode cX7_turn 21 = .ok (.dconst 0, 1) := by decide +kernel
theorem dX7_turn_22 : decode cX7_turn 22 = .ok (.dcmp .l, 1) := by decide +kernel
theorem dX7_turn_23 : decode cX7_turn 23 = .ok (.ifCond .lt 11, 3) := by decide +kernel
theorem dX7_turn_26 : decode cX7_turn 26 = .ok (.dload_n 1, 1) := by decide +kernel
theorem dX7_turn_27 : decode cX7_turn 27 = .ok (.ldc2_w 216, 3) := by decide +kernel
theorem dX7_turn_30 : decode cX7_turn 30 = .ok (.dcmp .g, 1) := by decide +kernel
theorem dX7_turn_31 : decode cX7_turn 31 = .ok (.ifCond .le 7, 3) := by decide +kernel
theorem dX7_turn_34 : decode cX7_turn 34 = .ok (.iconst 1, 1) := by decide +kernel
theorem dX7_turn_35 : decode cX7_turn 35 = .ok (.goto 4, 3) := by decide +kernel
theorem dX7_turn_38 : decode cX7_turn 38 = .ok (.iconst 0, 1) := by decide +kernel
theorem dX7_turn_39 : decode cX7_turn 39 = .ok (.istore 4, 2) := by decide +kernel
theorem dX7_turn_41 : decode cX7_turn 41 = .ok (.aload_n 0, 1) := by decide +kernel
theorem dX7_turn_42 : decode cX7_turn 42 = .ok (.iload_n 3, 1) := by decide +kernel
theorem dX7_turn_43 : decode cX7_turn 43 = .ok (.ifCond .eq 7, 3) := by decide +kernel
theorem dX7_turn_46 : decode cX7_turn 46 = .ok (.iconst 1, 1) := by decide +kernel
theorem dX7_turn_47 : decode cX7_turn 47 = .ok (.goto 13, 3) := by decide +kernel
theorem dX7_turn_50 : decode cX7_turn 50 = .ok (.iload 4, 2) := by decide +kernel
theorem dX7_turn_52 : decode cX7_turn 52 = .ok (.ifCond .eq 7, 3) := by decide +kernel
theorem dX7_turn_55 : decode cX7_turn 55 = .ok (.iconst 2, 1) := by decide +kernel
theorem dX7_turn_56 : decode cX7_turn 56 = .ok (.goto 4, 3) := by decide +kernel
theorem dX7_turn_59 : decode cX7_turn 59 = .ok (.iconst 0, 1) := by decide +kernel
theorem dX7_turn_60 : decode cX7_turn 60 = .ok (.putfield 74, 3) := by decide +kernel
theorem dX7_turn_63 : decode cX7_turn 63 = .ok (.aload_n 0, 1) := by decide +kernel
theorem dX7_turn_64 : decode cX7_turn 64 = .ok (.getfield 74, 3) := by decide +kernel
theorem dX7_turn_67 : decode cX7_turn 67 = .ok (.ifCond .le 5, 3) := by decide +kernel
theorem dX7_turn_70 : decode cX7_turn 70 = .ok (.dconst 0, 1) := by decide +kernel
theorem dX7_turn_71 : decode cX7_turn 71 = .ok (.dreturn, 1) := by decide +kernel
theorem dX7_turn_72 : decode cX7_turn 72 = .ok (.dload_n 1, 1) := by decide +kernel
theorem dX7_turn_73 : decode cX7_turn 73 = .ok (.ldc2_w 218, 3) := by decide +kernel
theorem dX7_turn_76 : decode cX7_turn 76 = .ok (.dmul, 1) := by decide +kernel
theorem dX7_turn_77 : decode cX7_turn 77 = .ok (.d2i, 1) := by decide +kernel
theorem dX7_turn_78 : decode cX7_turn 78 = .ok (.iconst 2, 1) := by decide +kernel
theorem dX7_turn_79 : decode cX7_turn 79 = .ok (.imul, 1) := by decide +kernel
theorem dX7_turn_80 : decode cX7_turn 80 = .ok (.istore 5, 2) := by decide +kernel
theorem dX7_turn_82 : decode cX7_turn 82 = .ok (.iconst 0, 1) := by decide +kernel
theorem dX7_turn_83 : decode cX7_turn 83 = .ok (.istore 6, 2) := by decide +kernel
theorem dX7_turn_85 : decode cX7_turn 85 = .ok (.iload 5, 2) := by decide +kernel
theorem dX7_turn_87 : decode cX7_turn 87 = .ok (.ifCond .le 232, 3) := by decide +kernel
theorem dX7_turn_90 : decode cX7_turn 90 = .ok (.aload_n 0, 1) := by decide +kernel
theorem dX7_turn_91 : decode cX7_turn 91 = .ok (.getfield 151, 3) := by decide +kernel
theorem dX7_turn_94 : decode cX7_turn 94 = .ok (.ifCond .eq 225, 3) := by decide +kernel
theorem dX7_turn_97 : decode cX7_turn 97 = .ok (.aload_n 0, 1) := by decide +kernel
theorem dX7_turn_98 : decode cX7_turn 98 = .ok (.getfield 220, 3) := by decide +kernel
theorem dX7_turn_101 : decode cX7_turn 101 = .ok (.invokestatic 223, 3) := by decide +kernel
theorem dX7_turn_104 : decode cX7_turn 104 = .ok (.aload_n 0, 1) := by decide +kernel
theorem dX7_turn_105 : decode cX7_turn 105 = .ok (.getfield 220, 3) := by decide +kernel
theorem dX7_turn_108 : decode cX7_turn 108 = .ok (.isub, 1) := by decide +kernel
theorem dX7_turn_109 : decode cX7_turn 109 = .ok (.istore 7, 2) := by decide +kernel
theorem dX7_turn_111 : decode cX7_turn 111 = .ok (.iload 7, 2) := by decide +kernel
theorem dX7_turn_113 : decode cX7_turn 113 = .ok (.iload 5, 2) := by decide +kernel
theorem dX7_turn_115 : decode cX7_turn 115 = .ok (.if_icmp .ge 8, 3) := by decide +kernel
theorem dX7_turn_118 : decode cX7_turn 118 = .ok (.iload 7, 2) := by decide +kernel
theorem dX7_turn_120 : decode cX7_turn 120 = .ok (.goto 5, 3) := by decide +kernel
theorem dX7_turn_123 : decode cX7_turn 123 = .ok (.iload 5, 2) := by decide +kernel
theorem dX7_turn_125 : decode cX7_turn 125 = .ok (.istore 7, 2) := by decide +kernel
theorem dX7_turn_127 : decode cX7_turn 127 = .ok (.aload_n 0, 1) := by decide +kernel
theorem dX7_turn_128 : decode cX7_turn 128 = .ok (.getfield 151, 3) := by decide +kernel
theorem dX7_turn_131 : decode cX7_turn 131 = .ok (.iconst 2, 1) := by decide +kernel
theorem dX7_turn_132 : decode cX7_turn 132 = .ok (.if_icmp .ne 19, 3) := by decide +kernel
theorem dX7_turn_135 : decode cX7_turn 135 = .ok (.aload_n 0, 1) := by decide +kernel
theorem dX7_turn_136 : decode cX7_turn 136 = .ok (.getfield 170, 3) := by decide +kernel
theorem dX7_turn_139 : decode cX7_turn 139 = .ok (.iload 7, 2) := by decide +kernel
theorem dX7_turn_141 : decode cX7_turn 141 = .ok (.if_icmp .ge 10, 3) := by decide +kernel
theorem dX7_turn_144 : decode cX7_turn 144 = .ok (.aload_n 0, 1) := by decide +kernel
theorem dX7_turn_145 : decode cX7_turn 145 = .ok (.getfield 170, 3) := by decide +kernel
theorem dX7_turn_148 : decode cX7_turn 148 = .ok (.goto 5, 3) := by decide +kernel
theorem dX7_turn_151 : decode cX7_turn 151 = .ok (.iload 7, 2) := by decide +kernel
theorem dX7_turn_153 : decode cX7_turn 153 = .ok (.istore 7, 2) := by decide +kernel
theorem dX7_turn_155 : decode cX7_turn 155 = .ok (.aload_n 0, 1) := by decide +kernel
theorem dX7_turn_156 : decode cX7_turn 156 = .ok (.dup, 1) := by decide +kernel
theorem dX7_turn_157 : decode cX7_turn 157 = .ok (.getfield 220, 3) := by decide +kernel
theorem dX7_turn_160 : decode cX7_turn 160 = .ok (.iload 7, 2) := by decide +kernel
theorem dX7_turn_162 : decode cX7_turn 162 = .ok (.iadd, 1) := by decide +kernel
theorem dX7_turn_163 : decode cX7_turn 163 = .ok (.putfield 220, 3) := by decide +kernel
theorem dX7_turn_166 : decode cX7_turn 166 = .ok (.iload 6, 2) := by decide +kernel
theorem dX7_turn_168 : decode cX7_turn 168 = .ok (.iload 7, 2) := by decide +kernel
theorem dX7_turn_170 : decode cX7_turn 170 = .ok (.iadd, 1) := by decide +kernel
theorem dX7_turn_171 : decode cX7_turn 171 = .ok (.istore 6, 2) := by decide +kernel
theorem dX7_turn_173 : decode cX7_turn 173 = .ok (.iload 5, 2) := by decide +kernel
theorem dX7_turn_175 : decode cX7_turn 175 = .ok (.iload 7, 2) := by decide +kernel
theorem dX7_turn_177 : decode cX7_turn 177 = .ok (.isub, 1) := by decide +kernel
theorem dX7_turn_178 : decode cX7_turn 178 = .ok (.istore 5, 2) := by decide +kernel
theorem dX7_turn_180 : decode cX7_turn 180 = .ok (.aload_n 0, 1) := by decide +kernel
theorem dX7_turn_181 : decode cX7_turn 181 = .ok (.dup, 1) := by decide +kernel
theorem dX7_turn_182 : decode cX7_turn 182 = .ok (.getfield 170, 3) := by decide +kernel
theorem dX7_turn_185 : decode cX7_turn 185 = .ok (.aload_n 0, 1) := by decide +kernel
theorem dX7_turn_186 : decode cX7_turn 186 = .ok (.getfield 151, 3) := by decide +kernel
theorem dX7_turn_189 : decode cX7_turn 189 = .ok (.iconst 2, 1) := by decide +kernel
theorem dX7_turn_190 : decode cX7_turn 190 = .ok (.if_icmp .ne 8, 3) := by decide +kernel
theorem dX7_turn_193 : decode cX7_turn 193 = .ok (.iload 7, 2) := by decide +kernel
theorem dX7_turn_195 : decode cX7_turn 195 = .ok (.goto 4, 3) := by decide +kernel
theorem dX7_turn_198 : decode cX7_turn 198 = .ok (.iconst 0, 1) := by decide +kernel
theorem dX7_turn_199 : decode cX7_turn 199 = .ok (.isub, 1) := by decide +kernel
theorem dX7_turn_200 : decode cX7_turn 200 = .ok (.putfield 170, 3) := by decide +kernel
theorem dX7_turn_203 : decode cX7_turn 203 = .ok (.aload_n 0, 1) := by decide +kernel
theorem dX7_turn_204 : decode cX7_turn 204 = .ok (.getfield 151, 3) := by decide +kernel
theorem dX7_turn_207 : decode cX7_turn 207 = .ok (.iconst 2, 1) := by decide +kernel
theorem dX7_turn_208 : decode cX7_turn 208 = .ok (.if_icmp .ne 14, 3) := by decide +kernel
theorem dX7_turn_211 : decode cX7_turn 211 = .ok (.aload_n 0, 1) := by decide +kernel
theorem dX7_turn_212 : decode cX7_turn 212 = .ok (.getfield 170, 3) := by decide +kernel
theorem dX7_turn_215 : decode cX7_turn 215 = .ok (.ifCond .ne 7, 3) := by decide +kernel
theorem dX7_turn_218 : decode cX7_turn 218 = .ok (.iconst 1, 1) := by decide +kernel
theorem dX7_turn_219 : decode cX7_turn 219 = .ok (.goto 4, 3) := by decide +kernel
theorem dX7_turn_222 : decode cX7_turn 222 = .ok (.iconst 0, 1) := by decide +kernel
theorem dX7_turn_223 : decode cX7_turn 223 = .ok (.istore 8, 2) := by decide +kernel
theorem dX7_turn_225 : decode cX7_turn 225 = .ok (.aload_n 0, 1) := by decide +kernel
theorem dX7_turn_226 : decode cX7_turn 226 = .ok (.getfield 220, 3) := by decide +kernel
theorem dX7_turn_229 : decode cX7_turn 229 = .ok (.sipush 480, 3) := by decide +kernel
theorem dX7_turn_232 : decode cX7_turn 232 = .ok (.if_icmp .eq 33, 3) := by decide +kernel
theorem dX7_turn_235 : decode cX7_turn 235 = .ok (.aload_n 0, 1) := by decide +kernel
theorem dX7_turn_236 : decode cX7_turn 236 = .ok (.getfield 220, 3) := by decide +kernel
theorem dX7_turn_239 : decode cX7_turn 239 = .ok (.sipush 1440, 3) := by decide +kernel
theorem dX7_turn_242 : decode cX7_turn 242 = .ok (.if_icmp .eq 23, 3) := by decide +kernel
theorem dX7_turn_245 : decode cX7_turn 245 = .ok (.aload_n 0, 1) := by decide +kernel
theorem dX7_turn_246 : decode cX7_turn 246 = .ok (.getfield 220, 3) := by decide +kernel
theorem dX7_turn_249 : decode cX7_turn 249 = .ok (.sipush 4800, 3) := by decide +kernel
theorem dX7_turn_252 : decode cX7_turn 252 = .ok (.if_icmp .eq 13, 3) := by decide +kernel
theorem dX7_turn_255 : decode cX7_turn 255 = .ok (.aload_n 0, 1) := by decide +kernel
theorem dX7_turn_256 : decode cX7_turn 256 = .ok (.getfield 220, 3) := by decide +kernel
theorem dX7_turn_259 : decode cX7_turn 259 = .ok (.sipush 5760, 3) := by decide +kernel
theorem dX7_turn_262 : decode cX7_turn 262 = .ok (.if_icmp .ne 37, 3) := by decide +kernel
theorem dX7_turn_265 : decode cX7_turn 265 = .ok (.aload_n 0, 1) := by decide +kernel
theorem dX7_turn_266 : decode cX7_turn 266 = .ok (.getfield 220, 3) := by decide +kernel
theorem dX7_turn_269 : decode cX7_turn 269 = .ok (.istore 9, 2) := by decide +kernel
theorem dX7_turn_271 : decode cX7_turn 271 = .ok (.aload_n 0, 1) := by decide +kernel
theorem dX7_turn_272 : decode cX7_turn 272 = .ok (.aload_n 0, 1) := by decide +kernel
theorem dX7_turn_273 : decode cX7_turn 273 = .ok (.getfield 220, 3) := by decide +kernel
theorem dX7_turn_276 : decode cX7_turn 276 = .ok (.sipush 5760, 3) := by decide +kernel
theorem dX7_turn_279 : decode cX7_turn 279 = .ok (.if_icmp .ne 7, 3) := by decide +kernel
theorem dX7_turn_282 : decode cX7_turn 282 = .ok (.iconst 0, 1) := by decide +kernel
theorem dX7_turn_283 : decode cX7_turn 283 = .ok (.goto 7, 3) := by decide +kernel
theorem dX7_turn_286 : decode cX7_turn 286 = .ok (.aload_n 0, 1) := by decide +kernel
theorem dX7_turn_287 : decode cX7_turn 287 = .ok (.getfield 220, 3) := by decide +kernel
theorem dX7_turn_290 : decode cX7_turn 290 = .ok (.putfield 220, 3) := by decide +kernel
theorem dX7_turn_293 : decode cX7_turn 293 = .ok (.aload_n 0, 1) := by decide +kernel
theorem dX7_turn_294 : decode cX7_turn 294 = .ok (.iload 9, 2) := by decide +kernel
theorem dX7_turn_296 : decode cX7_turn 296 = .ok (.invokevirtual 226, 3) := by decide +kernel
theorem dX7_turn_299 : decode cX7_turn 299 = .ok (.aload_n 0, 1) := by decide +kernel
theorem dX7_turn_300 : decode cX7_turn 300 = .ok (.iload 8, 2) := by decide +kernel
theorem dX7_turn_302 : decode cX7_turn 302 = .ok (.ifCond .eq 7, 3) := by decide +kernel
theorem dX7_turn_305 : decode cX7_turn 305 = .ok (.iconst 0, 1) := by decide +kernel
theorem dX7_turn_306 : decode cX7_turn 306 = .ok (.goto 7, 3) := by decide +kernel
theorem dX7_turn_309 : decode cX7_turn 309 = .ok (.aload_n 0, 1) := by decide +kernel
theorem dX7_turn_310 : decode cX7_turn 310 = .ok (.getfield 151, 3) := by decide +kernel
theorem dX7_turn_313 : decode cX7_turn 313 = .ok (.putfield 151, 3) := by decide +kernel
theorem dX7_turn_316 : decode cX7_turn 316 = .ok (.goto (-231), 3) := by decide +kernel
theorem dX7_turn_319 : decode cX7_turn 319 = .ok (.iload 6, 2) := by decide +kernel
theorem dX7_turn_321 : decode cX7_turn 321 = .ok (.i2d, 1) := by decide +kernel
theorem dX7_turn_322 : decode cX7_turn 322 = .ok (.ldc2_w 230, 3) := by decide +kernel
theorem dX7_turn_325 : decode cX7_turn 325 = .ok (.ddiv, 1) := by decide +kernel
theorem dX7_turn_326 : decode cX7_turn 326 = .ok (.dreturn, 1) := by decide +kernel
theorem dX7_notAbove_0 : decode cX7_notAbove 0 = .ok (.iload_n 0, 1) := by decide +kernel
theorem dX7_notAbove_1 : decode cX7_notAbove 1 = .ok (.sipush 4800, 3) := by decide +kernel
theorem dX7_notAbove_4 : decode cX7_notAbove 4 = .ok (.if_icmp .lt 9, 3) := by decide +kernel
theorem dX7_notAbove_7 : decode cX7_notAbove 7 = .ok (.sipush 4800, 3) := by decide +kernel
theorem dX7_notAbove_10 : decode cX7_notAbove 10 = .ok (.goto 30, 3) := by decide +kernel
theorem dX7_notAbove_13 : decode cX7_notAbove 13 = .ok (.iload_n 0, 1) := by decide +kernel
theorem dX7_notAbove_14 : decode cX7_notAbove 14 = .ok (.sipush 1440, 3) := by decide +kernel
theorem dX7_notAbove_17 : decode cX7_notAbove 17 = .ok (.if_icmp .lt 9, 3) := by decide +kernel
theorem dX7_notAbove_20 : decode cX7_notAbove 20 = .ok (.sipush 1440, 3) := by decide +kernel
theorem dX7_notAbove_23 : decode cX7_notAbove 23 = .ok (.goto 17, 3) := by decide +kernel
theorem dX7_notAbove_26 : decode cX7_notAbove 26 = .ok (.iload_n 0, 1) := by decide +kernel
theorem dX7_notAbove_27 : decode cX7_notAbove 27 = .ok (.sipush 480, 3) := by decide +kernel
theorem dX7_notAbove_30 : decode cX7_notAbove 30 = .ok (.if_icmp .lt 9, 3) := by decide +kernel
theorem dX7_notAbove_33 : decode cX7_notAbove 33 = .ok (.sipush 480, 3) := by decide +kernel
theorem dX7_notAbove_36 : decode cX7_notAbove 36 = .ok (.goto 4, 3) := by decide +kernel
theorem dX7_notAbove_39 : decode cX7_notAbove 39 = .ok (.iconst 0, 1) := by decide +kernel
theorem dX7_notAbove_40 : decode cX7_notAbove 40 = .ok (.ireturn, 1) := by decide +kernel
theorem dX7_unpicks_0 : decode cX7_unpicks 0 = .ok (.aload_n 0, 1) := by decide +kernel
theorem dX7_unpicks_1 : decode cX7_unpicks 1 = .ok (.getfield 182, 3) := by decide +kernel
theorem dX7_unpicks_4 : decode cX7_unpicks 4 = .ok (.ifCond .le 82, 3) := by decide +kernel
theorem dX7_unpicks_7 : decode cX7_unpicks 7 = .ok (.aload_n 0, 1) := by decide +kernel
theorem dX7_unpicks_8 : decode cX7_unpicks 8 = .ok (.dup, 1) := by decide +kernel
theorem dX7_unpicks_9 : decode cX7_unpicks 9 = .ok (.getfield 182, 3) := by decide +kernel
theorem dX7_unpicks_12 : decode cX7_unpicks 12 = .ok (.iconst 1, 1) := by decide +kernel
theorem dX7_unpicks_13 : decode cX7_unpicks 13 = .ok (.isub, 1) := by decide +kernel
theorem dX7_unpicks_14 : decode cX7_unpicks 14 = .ok (.putfield 182, 3) := by decide +kernel
theorem dX7_unpicks_17 : decode cX7_unpicks 17 = .ok (.aload_n 0, 1) := by decide +kernel
theorem dX7_unpicks_18 : decode cX7_unpicks 18 = .ok (.dup, 1) := by decide +kernel
theorem dX7_unpicks_19 : decode cX7_unpicks 19 = .ok (.getfield 191, 3) := by decide +kernel
theorem dX7_unpicks_22 : decode cX7_unpicks 22 = .ok (.sipush 4000, 3) := by decide +kernel
theorem dX7_unpicks_25 : decode cX7_unpicks 25 = .ok (.aload_n 0, 1) := by decide +kernel
theorem dX7_unpicks_26 : decode cX7_unpicks 26 = .ok (.getfield 61, 3) := by decide +kernel
theorem dX7_unpicks_29 : decode cX7_unpicks 29 = .ok (.aload_n 0, 1) := by decide +kernel
theorem dX7_unpicks_30 : decode cX7_unpicks 30 = .ok (.getfield 182, 3) := by decide +kernel
theorem dX7_unpicks_33 : decode cX7_unpicks 33 = .ok (.iaload, 1) := by decide +kernel
theorem dX7_unpicks_34 : decode cX7_unpicks 34 = .ok (.idiv, 1) := by decide +kernel
theorem dX7_unpicks_35 : decode cX7_unpicks 35 = .ok (.i2l, 1) := by decide +kernel
theorem dX7_unpicks_36 : decode cX7_unpicks 36 = .ok (.lsub, 1) := by decide +kernel
theorem dX7_unpicks_37 : decode cX7_unpicks 37 = .ok (.putfield 191, 3) := by decide +kernel
theorem dX7_unpicks_40 : decode cX7_unpicks 40 = .ok (.aload_n 0, 1) := by decide +kernel
theorem dX7_unpicks_41 : decode cX7_unpicks 41 = .ok (.dup, 1) := by decide +kernel
theorem dX7_unpicks_42 : decode cX7_unpicks 42 = .ok (.getfield 194, 3) := by decide +kernel
theorem dX7_unpicks_45 : decode cX7_unpicks 45 = .ok (.lconst 1, 1) := by decide +kernel
theorem dX7_unpicks_46 : decode cX7_unpicks 46 = .ok (.lsub, 1) := by decide +kernel
theorem dX7_unpicks_47 : decode cX7_unpicks 47 = .ok (.putfield 194, 3) := by decide +kernel
theorem dX7_unpicks_50 : decode cX7_unpicks 50 = .ok (.aload_n 0, 1) := by decide +kernel
theorem dX7_unpicks_51 : decode cX7_unpicks 51 = .ok (.aload_n 0, 1) := by decide +kernel
theorem dX7_unpicks_52 : decode cX7_unpicks 52 = .ok (.getfield 163, 3) := by decide +kernel
theorem dX7_unpicks_55 : decode cX7_unpicks 55 = .ok (.lconst 0, 1) := by decide +kernel
theorem dX7_unpicks_56 : decode cX7_unpicks 56 = .ok (.lcmp, 1) := by decide +kernel
theorem dX7_unpicks_57 : decode cX7_unpicks 57 = .ok (.ifCond .ne 12, 3) := by decide +kernel
theorem dX7_unpicks_60 : decode cX7_unpicks 60 = .ok (.aload_n 0, 1) := by decide +kernel
theorem dX7_unpicks_61 : decode cX7_unpicks 61 = .ok (.getfield 130, 3) := by decide +kernel
theorem dX7_unpicks_64 : decode cX7_unpicks 64 = .ok (.lconst 1, 1) := by decide +kernel
theorem dX7_unpicks_65 : decode cX7_unpicks 65 = .ok (.lsub, 1) := by decide +kernel
theorem dX7_unpicks_66 : decode cX7_unpicks 66 = .ok (.goto 9, 3) := by decide +kernel
theorem dX7_unpicks_69 : decode cX7_unpicks 69 = .ok (.aload_n 0, 1) := by decide +kernel
theorem dX7_unpicks_70 : decode cX7_unpicks 70 = .ok (.getfield 163, 3) := by decide +kernel
theorem dX7_unpicks_73 : decode cX7_unpicks 73 = .ok (.lconst 1, 1) := by decide +kernel
theorem dX7_unpicks_74 : decode cX7_unpicks 74 = .ok (.lsub, 1) := by decide +kernel
theorem dX7_unpicks_75 : decode cX7_unpicks 75 = .ok (.putfield 163, 3) := by decide +kernel
theorem dX7_unpicks_78 : decode cX7_unpicks 78 = .ok (.aload_n 0, 1) := by decide +kernel
theorem dX7_unpicks_79 : decode cX7_unpicks 79 = .ok (.iconst 1, 1) := by decide +kernel
theorem dX7_unpicks_80 : decode cX7_unpicks 80 = .ok (.putfield 200, 3) := by decide +kernel
theorem dX7_unpicks_83 : decode cX7_unpicks 83 = .ok (.goto 8, 3) := by decide +kernel
theorem dX7_unpicks_86 : decode cX7_unpicks 86 = .ok (.aload_n 0, 1) := by decide +kernel
theorem dX7_unpicks_87 : decode cX7_unpicks 87 = .ok (.iconst 0, 1) := by decide +kernel
theorem dX7_unpicks_88 : decode cX7_unpicks 88 = .ok (.putfield 200, 3) := by decide +kernel
theorem dX7_unpicks_91 : decode cX7_unpicks 91 = .ok (.aload_n 0, 1) := by decide +kernel
theorem dX7_unpicks_92 : decode cX7_unpicks 92 = .ok (.dup, 1) := by decide +kernel
theorem dX7_unpicks_93 : decode cX7_unpicks 93 = .ok (.getfield 213, 3) := by decide +kernel
theorem dX7_unpicks_96 : decode cX7_unpicks 96 = .ok (.lconst 1, 1) := by decide +kernel
theorem dX7_unpicks_97 : decode cX7_unpicks 97 = .ok (.lsub, 1) := by decide +kernel
theorem dX7_unpicks_98 : decode cX7_unpicks 98 = .ok (.putfield 213, 3) := by decide +kernel
theorem dX7_unpicks_101 : decode cX7_unpicks 101 = .ok (.return_, 1) := by decide +kernel
set_option maxRecDepth 20000 in
theorem ggX7_goesBack_X7_notAbove : GoodIn wsX7_goesBack wsX7_notAbove := goodIn_r _ [6] (by decide +kernel) (by decide +kernel)
set_option maxRecDepth 20000 in
theorem gX7_goesBack_X7_notAbove : GoodIn wsX7_goesBack (va_wsS RX7 232 yX7_notAbove wsX7_notAbove) := goodIn_app (goodIn_of _ (by decide +kernel)) ggX7_goesBack_X7_notAbove
set_option maxRecDepth 20000 in
theorem ggX7_goesBack_X7_unpicks : GoodIn wsX7_goesBack wsX7_unpicks := goodIn_r _ [10, 11, 12, 13, 14, 15, 16, 2, 17, 18, 19, 20, 21, 22, 23, 24, 25, 26, 27, 28, 29, 30, 31, 32, 33, 34, 35, 36, 37, 38, 39, 40, 41, 42, 43, 44, 45, 46, 47, 48, 49, 50, 51, 52, 53, 54, 55, 56, 57, 58, 59, 60, 61] (by decide +kernel) (by decide +kernel)
set_option maxRecDepth 20000 in
theorem gX7_goesBack_X7_unpicks : GoodIn wsX7_goesBack (wsV RX7 235 RX7 yX7_unpicks wsX7_unpicks) := goodIn_app (goodIn_of _ (by decide +kernel)) ggX7_goesBack_X7_unpicks
theorem dX7_goesBack_0 : decode cX7_goesBack 0 = .ok (.iload_n 1, 1) := by decide +kernel
theorem dX7_goesBack_1 : decode cX7_goesBack 1 = .ok (.istore_n 2, 1) := by decide +kernel
theorem dX7_goesBack_2 : decode cX7_goesBack 2 = .ok (.iload_n 2, 1) := by decide +kernel
theorem dX7_goesBack_3 : decode cX7_goesBack 3 = .ok (.ifCond .le 88, 3) := by decide +kernel
theorem dX7_goesBack_6 : decode cX7_goesBack 6 = .ok (.aload_n 0, 1) := by decide +kernel
theorem dX7_goesBack_7 : decode cX7_goesBack 7 = .ok (.getfield 220, 3) := by decide +kernel
theorem dX7_goesBack_10 : decode cX7_goesBack 10 = .ok (.invokestatic 232, 3) := by decide +kernel
theorem dX7_goesBack_13 : decode cX7_goesBack 13 = .ok (.istore_n 3, 1) := by decide +kernel
theorem dX7_goesBack_14 : decode cX7_goesBack 14 = .ok (.aload_n 0, 1) := by decide +kernel
theorem dX7_goesBack_15 : decode cX7_goesBack 15 = .ok (.getfield 220, 3) := by decide +kernel
theorem dX7_goesBack_18 : decode cX7_goesBack 18 = .ok (.iload_n 3, 1) := by decide +kernel
theorem dX7_goesBack_19 : decode cX7_goesBack 19 = .ok (.isub, 1) := by decide +kernel
theorem dX7_goesBack_20 : decode cX7_goesBack 20 = .ok (.iload_n 2, 1) := by decide +kernel
theorem dX7_goesBack_21 : decode cX7_goesBack 21 = .ok (.if_icmp .lt 18, 3) := by decide +kernel
theorem dX7_goesBack_24 : decode cX7_goesBack 24 = .ok (.aload_n 0, 1) := by decide +kernel
theorem dX7_goesBack_25 : decode cX7_goesBack 25 = .ok (.dup, 1) := by decide +kernel
theorem dX7_goesBack_26 : decode cX7_goesBack 26 = .ok (.getfield 220, 3) := by decide +kernel
theorem dX7_goesBack_29 : decode cX7_goesBack 29 = .ok (.iload_n 2, 1) := by decide +kernel
theorem dX7_goesBack_30 : decode cX7_goesBack 30 = .ok (.isub, 1) := by decide +kernel
theorem dX7_goesBack_31 : decode cX7_goesBack 31 = .ok (.putfield 220, 3) := by decide +kernel
theorem dX7_goesBack_34 : decode cX7_goesBack 34 = .ok (.iconst 0, 1) := by decide +kernel
theorem dX7_goesBack_35 : decode cX7_goesBack 35 = .ok (.istore_n 2, 1) := by decide +kernel
theorem dX7_goesBack_36 : decode cX7_goesBack 36 = .ok (.goto (-34), 3) := by decide +kernel
theorem dX7_goesBack_39 : decode cX7_goesBack 39 = .ok (.iload_n 2, 1) := by decide +kernel
theorem dX7_goesBack_40 : decode cX7_goesBack 40 = .ok (.aload_n 0, 1) := by decide +kernel
theorem dX7_goesBack_41 : decode cX7_goesBack 41 = .ok (.getfield 220, 3) := by decide +kernel
theorem dX7_goesBack_44 : decode cX7_goesBack 44 = .ok (.iload_n 3, 1) := by decide +kernel
theorem dX7_goesBack_45 : decode cX7_goesBack 45 = .ok (.isub, 1) := by decide +kernel
theorem dX7_goesBack_46 : decode cX7_goesBack 46 = .ok (.isub, 1) := by decide +kernel
theorem dX7_goesBack_47 : decode cX7_goesBack 47 = .ok (.istore_n 2, 1) := by decide +kernel
theorem dX7_goesBack_48 : decode cX7_goesBack 48 = .ok (.iload_n 3, 1) := by decide +kernel
theorem dX7_goesBack_49 : decode cX7_goesBack 49 = .ok (.sipush 1440, 3) := by decide +kernel
theorem dX7_goesBack_52 : decode cX7_goesBack 52 = .ok (.if_icmp .ne 8, 3) := by decide +kernel
theorem dX7_goesBack_55 : decode cX7_goesBack 55 = .ok (.aload_n 0, 1) := by decide +kernel
theorem dX7_goesBack_56 : decode cX7_goesBack 56 = .ok (.iconst 0, 1) := by decide +kernel
theorem dX7_goesBack_57 : decode cX7_goesBack 57 = .ok (.putfield 200, 3) := by decide +kernel
theorem dX7_goesBack_60 : decode cX7_goesBack 60 = .ok (.iload_n 3, 1) := by decide +kernel
theorem dX7_goesBack_61 : decode cX7_goesBack 61 = .ok (.ifCond .ne 7, 3) := by decide +kernel
theorem dX7_goesBack_64 : decode cX7_goesBack 64 = .ok (.aload_n 0, 1) := by decide +kernel
theorem dX7_goesBack_65 : decode cX7_goesBack 65 = .ok (.invokevirtual 235, 3) := by decide +kernel
theorem dX7_goesBack_68 : decode cX7_goesBack 68 = .ok (.aload_n 0, 1) := by decide +kernel
theorem dX7_goesBack_69 : decode cX7_goesBack 69 = .ok (.iload_n 3, 1) := by decide +kernel
theorem dX7_goesBack_70 : decode cX7_goesBack 70 = .ok (.ifCond .ne 9, 3) := by decide +kernel
theorem dX7_goesBack_73 : decode cX7_goesBack 73 = .ok (.sipush 5760, 3) := by decide +kernel
theorem dX7_goesBack_76 : decode cX7_goesBack 76 = .ok (.goto 4, 3) := by decide +kernel
theorem dX7_goesBack_79 : decode cX7_goesBack 79 = .ok (.iload_n 3, 1) := by decide +kernel
theorem dX7_goesBack_80 : decode cX7_goesBack 80 = .ok (.iconst 1, 1) := by decide +kernel
theorem dX7_goesBack_81 : decode cX7_goesBack 81 = .ok (.isub, 1) := by decide +kernel
theorem dX7_goesBack_82 : decode cX7_goesBack 82 = .ok (.putfield 220, 3) := by decide +kernel
theorem dX7_goesBack_85 : decode cX7_goesBack 85 = .ok (.iinc 2 (-1), 3) := by decide +kernel
theorem dX7_goesBack_88 : decode cX7_goesBack 88 = .ok (.goto (-86), 3) := by decide +kernel
theorem dX7_goesBack_91 : decode cX7_goesBack 91 = .ok (.return_, 1) := by decide +kernel
set_option maxRecDepth 20000 in
theorem ggX7_back_X7_goesBack : GoodIn wsX7_back wsX7_goesBack := goodIn_r _ [13, 7, 14, 15, 16, 12, 17, 18, 19, 20, 21, 22, 23, 24, 25, 26, 2, 27, 28, 29, 30, 31, 32, 33, 34, 35, 36, 37, 38, 39, 40, 41, 42, 43, 44, 45, 46, 47, 48, 49, 50, 51, 52, 53, 54, 55, 56, 57, 58, 59, 60, 61, 62, 63, 64, 65, 66, 67, 68, 69, 70, 71] (by decide +kernel) (by decide +kernel)
set_option maxRecDepth 20000 in
theorem gX7_back_X7_goesBack : GoodIn wsX7_back (wsV RX7 240 RX7 yX7_goesBack wsX7_goesBack) := goodIn_app (goodIn_of _ (by decide +kernel)) ggX7_back_X7_goesBack
theorem dX7_back_0 : decode cX7_back 0 = .ok (.aload_n 0, 1) := by decide +kernel
theorem dX7_back_1 : decode cX7_back 1 = .ok (.getfield 151, 3) := by decide +kernel
theorem dX7_back_4 : decode cX7_back 4 = .ok (.ifCond .ne 19, 3) := by decide +kernel
theorem dX7_back_7 : decode cX7_back 7 = .ok (.aload_n 0, 1) := by decide +kernel
theorem dX7_back_8 : decode cX7_back 8 = .ok (.getfield 130, 3) := by decide +kernel
theorem dX7_back_11 : decode cX7_back 11 = .ok (.lconst 0, 1) := by decide +kernel
theorem dX7_back_12 : decode cX7_back 12 = .ok (.lcmp, 1) := by decide +kernel
theorem dX7_back_13 : decode cX7_back 13 = .ok (.ifCond .eq 10, 3) := by decide +kernel
theorem dX7_back_16 : decode cX7_back 16 = .ok (.aload_n 0, 1) := by decide +kernel
theorem dX7_back_17 : decode cX7_back 17 = .ok (.getfield 47, 3) := by decide +kernel
theorem dX7_back_20 : decode cX7_back 20 = .ok (.ifCond .ne 7, 3) := by decide +kernel
theorem dX7_back_23 : decode cX7_back 23 = .ok (.iconst 1, 1) := by decide +kernel
theorem dX7_back_24 : decode cX7_back 24 = .ok (.goto 4, 3) := by decide +kernel
theorem dX7_back_27 : decode cX7_back 27 = .ok (.iconst 0, 1) := by decide +kernel
theorem dX7_back_28 : decode cX7_back 28 = .ok (.istore_n 3, 1) := by decide +kernel
theorem dX7_back_29 : decode cX7_back 29 = .ok (.dload_n 1, 1) := by decide +kernel
theorem dX7_back_30 : decode cX7_back 30 = .ok (.dconst 0, 1) := by decide +kernel
theorem dX7_back_31 : decode cX7_back 31 = .ok (.dcmp .l, 1) := by decide +kernel
theorem dX7_back_32 : decode cX7_back 32 = .ok (.ifCond .lt 11, 3) := by decide +kernel
theorem dX7_back_35 : decode cX7_back 35 = .ok (.dload_n 1, 1) := by decide +kernel
theorem dX7_back_36 : decode cX7_back 36 = .ok (.ldc2_w 238, 3) := by decide +kernel
theorem dX7_back_39 : decode cX7_back 39 = .ok (.dcmp .g, 1) := by decide +kernel
theorem dX7_back_40 : decode cX7_back 40 = .ok (.ifCond .le 7, 3) := by decide +kernel
theorem dX7_back_43 : decode cX7_back 43 = .ok (.iconst 1, 1) := by decide +kernel
theorem dX7_back_44 : decode cX7_back 44 = .ok (.goto 4, 3) := by decide +kernel
theorem dX7_back_47 : decode cX7_back 47 = .ok (.iconst 0, 1) := by decide +kernel
theorem dX7_back_48 : decode cX7_back 48 = .ok (.istore 4, 2) := by decide +kernel
theorem dX7_back_50 : decode cX7_back 50 = .ok (.aload_n 0, 1) := by decide +kernel
theorem dX7_back_51 : decode cX7_back 51 = .ok (.iload_n 3, 1) := by decide +kernel
theorem dX7_back_52 : decode cX7_back 52 = .ok (.ifCond .eq 7, 3) := by decide +kernel
theorem dX7_back_55 : decode cX7_back 55 = .ok (.iconst 1, 1) := by decide +kernel
theorem dX7_back_56 : decode cX7_back 56 = .ok (.goto 13, 3) := by decide +kernel
theorem dX7_back_59 : decode cX7_back 59 = .ok (.iload 4, 2) := by decide +kernel
theorem dX7_back_61 : decode cX7_back 61 = .ok (.ifCond .eq 7, 3) := by decide +kernel
theorem dX7_back_64 : decode cX7_back 64 = .ok (.iconst 2, 1) := by decide +kernel
theorem dX7_back_65 : decode cX7_back 65 = .ok (.goto 4, 3) := by decide +kernel
theorem dX7_back_68 : decode cX7_back 68 = .ok (.iconst 0, 1) := by decide +kernel
theorem dX7_back_69 : decode cX7_back 69 = .ok (.putfield 74, 3) := by decide +kernel
theorem dX7_back_72 : decode cX7_back 72 = .ok (.aload_n 0, 1) := by decide +kernel
theorem dX7_back_73 : decode cX7_back 73 = .ok (.getfield 74, 3) := by decide +kernel
theorem dX7_back_76 : decode cX7_back 76 = .ok (.ifCond .le 5, 3) := by decide +kernel
theorem dX7_back_79 : decode cX7_back 79 = .ok (.dconst 0, 1) := by decide +kernel
theorem dX7_back_80 : decode cX7_back 80 = .ok (.dreturn, 1) := by decide +kernel
theorem dX7_back_81 : decode cX7_back 81 = .ok (.aload_n 0, 1) := by decide +kernel
theorem dX7_back_82 : decode cX7_back 82 = .ok (.dload_n 1, 1) := by decide +kernel
theorem dX7_back_83 : decode cX7_back 83 = .ok (.ldc2_w 218, 3) := by decide +kernel
theorem dX7_back_86 : decode cX7_back 86 = .ok (.dmul, 1) := by decide +kernel
theorem dX7_back_87 : decode cX7_back 87 = .ok (.d2i, 1) := by decide +kernel
theorem dX7_back_88 : decode cX7_back 88 = .ok (.iconst 2, 1) := by decide +kernel
theorem dX7_back_89 : decode cX7_back 89 = .ok (.imul, 1) := by decide +kernel
theorem dX7_back_90 : decode cX7_back 90 = .ok (.invokevirtual 240, 3) := by decide +kernel
theorem dX7_back_93 : decode cX7_back 93 = .ok (.aload_n 0, 1) := by decide +kernel
theorem dX7_back_94 : decode cX7_back 94 = .ok (.getfield 220, 3) := by decide +kernel
theorem dX7_back_97 : decode cX7_back 97 = .ok (.i2d, 1) := by decide +kernel
theorem dX7_back_98 : decode cX7_back 98 = .ok (.ldc2_w 230, 3) := by decide +kernel
theorem dX7_back_101 : decode cX7_back 101 = .ok (.ddiv, 1) := by decide +kernel
theorem dX7_back_102 : decode cX7_back 102 = .ok (.dreturn, 1) := by decide +kernel
set_option maxRecDepth 20000 in
theorem ggX7_findPick_X7_goesBack : GoodIn wsX7_findPick wsX7_goesBack := goodIn_r _ [10, 5, 3, 11, 12, 9, 13, 14, 15, 16, 17, 18, 19, 20, 21, 22, 23, 24, 25, 26, 27, 28, 29, 30, 31, 32, 33, 34, 35, 36, 37, 38, 39, 40, 41, 42, 43, 44, 45, 46, 47, 48, 49, 50, 51, 52, 53, 54, 55, 56, 57, 58, 59, 60, 61, 62, 63, 64, 65, 66, 67, 68] (by decide +kernel) (by decide +kernel)
set_option maxRecDepth 20000 in
theorem gX7_findPick_X7_goesBack : GoodIn wsX7_findPick (wsV RX7 240 RX7 yX7_goesBack wsX7_goesBack) := goodIn_app (goodIn_of _ (by decide +kernel)) ggX7_findPick_X7_goesBack
theorem dX7_findPick_0 : decode cX7_findPick 0 = .ok (.aload_n 0, 1) := by decide +kernel
theorem dX7_findPick_1 : decode cX7_findPick 1 = .ok (.iconst 0, 1) := by decide +kernel
theorem dX7_findPick_2 : decode cX7_findPick 2 = .ok (.putfield 74, 3) := by decide +kernel
theorem dX7_findPick_5 : decode cX7_findPick 5 = .ok (.aload_n 0, 1) := by decide +kernel
theorem dX7_findPick_6 : decode cX7_findPick 6 = .ok (.getfield 151, 3) := by decide +kernel
theorem dX7_findPick_9 : decode cX7_findPick 9 = .ok (.ifCond .ne 18, 3) := by decide +kernel
theorem dX7_findPick_12 : decode cX7_findPick 12 = .ok (.aload_n 0, 1) := by decide +kernel
theorem dX7_findPick_13 : decode cX7_findPick 13 = .ok (.getfield 200, 3) := by decide +kernel
theorem dX7_findPick_16 : decode cX7_findPick 16 = .ok (.iconst 2, 1) := by decide +kernel
theorem dX7_findPick_17 : decode cX7_findPick 17 = .ok (.if_icmp .ne 10, 3) := by decide +kernel
theorem dX7_findPick_20 : decode cX7_findPick 20 = .ok (.aload_n 0, 1) := by decide +kernel
theorem dX7_findPick_21 : decode cX7_findPick 21 = .ok (.getfield 47, 3) := by decide +kernel
theorem dX7_findPick_24 : decode cX7_findPick 24 = .ok (.ifCond .ne 5, 3) := by decide +kernel
theorem dX7_findPick_27 : decode cX7_findPick 27 = .ok (.iconst 0, 1) := by decide +kernel
theorem dX7_findPick_28 : decode cX7_findPick 28 = .ok (.ireturn, 1) := by decide +kernel
theorem dX7_findPick_29 : decode cX7_findPick 29 = .ok (.aload_n 0, 1) := by decide +kernel
theorem dX7_findPick_30 : decode cX7_findPick 30 = .ok (.getfield 220, 3) := by decide +kernel
theorem dX7_findPick_33 : decode cX7_findPick 33 = .ok (.sipush 960, 3) := by decide +kernel
theorem dX7_findPick_36 : decode cX7_findPick 36 = .ok (.if_icmp .le 15, 3) := by decide +kernel
theorem dX7_findPick_39 : decode cX7_findPick 39 = .ok (.aload_n 0, 1) := by decide +kernel
theorem dX7_findPick_40 : decode cX7_findPick 40 = .ok (.aload_n 0, 1) := by decide +kernel
theorem dX7_findPick_41 : decode cX7_findPick 41 = .ok (.getfield 220, 3) := by decide +kernel
theorem dX7_findPick_44 : decode cX7_findPick 44 = .ok (.sipush 960, 3) := by decide +kernel
theorem dX7_findPick_47 : decode cX7_findPick 47 = .ok (.isub, 1) := by decide +kernel
theorem dX7_findPick_48 : decode cX7_findPick 48 = .ok (.invokevirtual 240, 3) := by decide +kernel
theorem dX7_findPick_51 : decode cX7_findPick 51 = .ok (.iconst 1, 1) := by decide +kernel
theorem dX7_findPick_52 : decode cX7_findPick 52 = .ok (.ireturn, 1) := by decide +kernel
theorem dX7_weft_0 : decode cX7_weft 0 = .ok (.aload_n 0, 1) := by decide +kernel
theorem dX7_weft_1 : decode cX7_weft 1 = .ok (.iconst 0, 1) := by decide +kernel
theorem dX7_weft_2 : decode cX7_weft 2 = .ok (.putfield 74, 3) := by decide +kernel
theorem dX7_weft_5 : decode cX7_weft 5 = .ok (.aload_n 0, 1) := by decide +kernel
theorem dX7_weft_6 : decode cX7_weft 6 = .ok (.getfield 47, 3) := by decide +kernel
theorem dX7_weft_9 : decode cX7_weft 9 = .ok (.ifCond .ne 5, 3) := by decide +kernel
theorem dX7_weft_12 : decode cX7_weft 12 = .ok (.iconst 0, 1) := by decide +kernel
theorem dX7_weft_13 : decode cX7_weft 13 = .ok (.ireturn, 1) := by decide +kernel
theorem dX7_weft_14 : decode cX7_weft 14 = .ok (.aload_n 0, 1) := by decide +kernel
theorem dX7_weft_15 : decode cX7_weft 15 = .ok (.iload_n 1, 1) := by decide +kernel
theorem dX7_weft_16 : decode cX7_weft 16 = .ok (.putfield 197, 3) := by decide +kernel
theorem dX7_weft_19 : decode cX7_weft 19 = .ok (.iconst 1, 1) := by decide +kernel
theorem dX7_weft_20 : decode cX7_weft 20 = .ok (.ireturn, 1) := by decide +kernel
theorem dX7_jump_0 : decode cX7_jump 0 = .ok (.aload_n 0, 1) := by decide +kernel
theorem dX7_jump_1 : decode cX7_jump 1 = .ok (.iconst 0, 1) := by decide +kernel
theorem dX7_jump_2 : decode cX7_jump 2 = .ok (.putfield 74, 3) := by decide +kernel
theorem dX7_jump_5 : decode cX7_jump 5 = .ok (.aload_n 0, 1) := by decide +kernel
theorem dX7_jump_6 : decode cX7_jump 6 = .ok (.getfield 151, 3) := by decide +kernel
theorem dX7_jump_9 : decode cX7_jump 9 = .ok (.ifCond .ne 35, 3) := by decide +kernel
theorem dX7_jump_12 : decode cX7_jump 12 = .ok (.aload_n 0, 1) := by decide +kernel
theorem dX7_jump_13 : decode cX7_jump 13 = .ok (.getfield 220, 3) := by decide +kernel
theorem dX7_jump_16 : decode cX7_jump 16 = .ok (.sipush 480, 3) := by decide +kernel
theorem dX7_jump_19 : decode cX7_jump 19 = .ok (.if_icmp .ge 25, 3) := by decide +kernel
theorem dX7_jump_22 : decode cX7_jump 22 = .ok (.lload_n 1, 1) := by decide +kernel
theorem dX7_jump_23 : decode cX7_jump 23 = .ok (.lconst 0, 1) := by decide +kernel
theorem dX7_jump_24 : decode cX7_jump 24 = .ok (.lcmp, 1) := by decide +kernel
theorem dX7_jump_25 : decode cX7_jump 25 = .ok (.ifCond .lt 19, 3) := by decide +kernel
theorem dX7_jump_28 : decode cX7_jump 28 = .ok (.lload_n 1, 1) := by decide +kernel
theorem dX7_jump_29 : decode cX7_jump 29 = .ok (.aload_n 0, 1) := by decide +kernel
theorem dX7_jump_30 : decode cX7_jump 30 = .ok (.getfield 130, 3) := by decide +kernel
theorem dX7_jump_33 : decode cX7_jump 33 = .ok (.lcmp, 1) := by decide +kernel
theorem dX7_jump_34 : decode cX7_jump 34 = .ok (.ifCond .ge 10, 3) := by decide +kernel
theorem dX7_jump_37 : decode cX7_jump 37 = .ok (.aload_n 0, 1) := by decide +kernel
theorem dX7_jump_38 : decode cX7_jump 38 = .ok (.getfield 47, 3) := by decide +kernel
theorem dX7_jump_41 : decode cX7_jump 41 = .ok (.ifCond .ne 5, 3) := by decide +kernel
theorem dX7_jump_44 : decode cX7_jump 44 = .ok (.iconst 0, 1) := by decide +kernel
theorem dX7_jump_45 : decode cX7_jump 45 = .ok (.ireturn, 1) := by decide +kernel
theorem dX7_jump_46 : decode cX7_jump 46 = .ok (.aload_n 0, 1) := by decide +kernel
theorem dX7_jump_47 : decode cX7_jump 47 = .ok (.lload_n 1, 1) := by decide +kernel
theorem dX7_jump_48 : decode cX7_jump 48 = .ok (.putfield 163, 3) := by decide +kernel
theorem dX7_jump_51 : decode cX7_jump 51 = .ok (.iconst 1, 1) := by decide +kernel
theorem dX7_jump_52 : decode cX7_jump 52 = .ok (.ireturn, 1) := by decide +kernel
theorem dX7_speed_0 : decode cX7_speed 0 = .ok (.aload_n 0, 1) := by decide +kernel
theorem dX7_speed_1 : decode cX7_speed 1 = .ok (.iconst 0, 1) := by decide +kernel
theorem dX7_speed_2 : decode cX7_speed 2 = .ok (.putfield 74, 3) := by decide +kernel
theorem dX7_speed_5 : decode cX7_speed 5 = .ok (.aload_n 0, 1) := by decide +kernel
theorem dX7_speed_6 : decode cX7_speed 6 = .ok (.getfield 151, 3) := by decide +kernel
theorem dX7_speed_9 : decode cX7_speed 9 = .ok (.ifCond .ne 17, 3) := by decide +kernel
theorem dX7_speed_12 : decode cX7_speed 12 = .ok (.fload_n 1, 1) := by decide +kernel
theorem dX7_speed_13 : decode cX7_speed 13 = .ok (.ldc 243, 2) := by decide +kernel
theorem dX7_speed_15 : decode cX7_speed 15 = .ok (.fcmp .l, 1) := by decide +kernel
theorem dX7_speed_16 : decode cX7_speed 16 = .ok (.ifCond .lt 10, 3) := by decide +kernel
theorem dX7_speed_19 : decode cX7_speed 19 = .ok (.fload_n 1, 1) := by decide +kernel
theorem dX7_speed_20 : decode cX7_speed 20 = .ok (.ldc 244, 2) := by decide +kernel
theorem dX7_speed_22 : decode cX7_speed 22 = .ok (.fcmp .g, 1) := by decide +kernel
theorem dX7_speed_23 : decode cX7_speed 23 = .ok (.ifCond .le 5, 3) := by decide +kernel
theorem dX7_speed_26 : decode cX7_speed 26 = .ok (.iconst 0, 1) := by decide +kernel
theorem dX7_speed_27 : decode cX7_speed 27 = .ok (.ireturn, 1) := by decide +kernel
theorem dX7_speed_28 : decode cX7_speed 28 = .ok (.aload_n 0, 1) := by decide +kernel
theorem dX7_speed_29 : decode cX7_speed 29 = .ok (.fload_n 1, 1) := by decide +kernel
theorem dX7_speed_30 : decode cX7_speed 30 = .ok (.ldc 245, 2) := by decide +kernel
theorem dX7_speed_32 : decode cX7_speed 32 = .ok (.fmul, 1) := by decide +kernel
theorem dX7_speed_33 : decode cX7_speed 33 = .ok (.f2i, 1) := by decide +kernel
theorem dX7_speed_34 : decode cX7_speed 34 = .ok (.iconst 2, 1) := by decide +kernel
theorem dX7_speed_35 : decode cX7_speed 35 = .ok (.imul, 1) := by decide +kernel
theorem dX7_speed_36 : decode cX7_speed 36 = .ok (.putfield 51, 3) := by decide +kernel
theorem dX7_speed_39 : decode cX7_speed 39 = .ok (.iconst 1, 1) := by decide +kernel
theorem dX7_speed_40 : decode cX7_speed 40 = .ok (.ireturn, 1) := by decide +kernel
theorem dX7_cut_0 : decode cX7_cut 0 = .ok (.aload_n 0, 1) := by decide +kernel
theorem dX7_cut_1 : decode cX7_cut 1 = .ok (.iconst 0, 1) := by decide +kernel
theorem dX7_cut_2 : decode cX7_cut 2 = .ok (.putfield 74, 3) := by decide +kernel
theorem dX7_cut_5 : decode cX7_cut 5 = .ok (.aload_n 0, 1) := by decide +kernel
theorem dX7_cut_6 : decode cX7_cut 6 = .ok (.getfield 47, 3) := by decide +kernel
theorem dX7_cut_9 : decode cX7_cut 9 = .ok (.ifCond .ne 5, 3) := by decide +kernel
theorem dX7_cut_12 : decode cX7_cut 12 = .ok (.iconst 0, 1) := by decide +kernel
theorem dX7_cut_13 : decode cX7_cut 13 = .ok (.ireturn, 1) := by decide +kernel
theorem dX7_cut_14 : decode cX7_cut 14 = .ok (.aload_n 0, 1) := by decide +kernel
theorem dX7_cut_15 : decode cX7_cut 15 = .ok (.iconst 0, 1) := by decide +kernel
theorem dX7_cut_16 : decode cX7_cut 16 = .ok (.putfield 47, 3) := by decide +kernel
theorem dX7_cut_19 : decode cX7_cut 19 = .ok (.aload_n 0, 1) := by decide +kernel
theorem dX7_cut_20 : decode cX7_cut 20 = .ok (.iconst 0, 1) := by decide +kernel
theorem dX7_cut_21 : decode cX7_cut 21 = .ok (.putfield 151, 3) := by decide +kernel
theorem dX7_cut_24 : decode cX7_cut 24 = .ok (.aload_n 0, 1) := by decide +kernel
theorem dX7_cut_25 : decode cX7_cut 25 = .ok (.iconst 0, 1) := by decide +kernel
theorem dX7_cut_26 : decode cX7_cut 26 = .ok (.putfield 200, 3) := by decide +kernel
theorem dX7_cut_29 : decode cX7_cut 29 = .ok (.aload_n 0, 1) := by decide +kernel
theorem dX7_cut_30 : decode cX7_cut 30 = .ok (.iconst 0, 1) := by decide +kernel
theorem dX7_cut_31 : decode cX7_cut 31 = .ok (.putfield 197, 3) := by decide +kernel
theorem dX7_cut_34 : decode cX7_cut 34 = .ok (.aload_n 0, 1) := by decide +kernel
theorem dX7_cut_35 : decode cX7_cut 35 = .ok (.iconst 0, 1) := by decide +kernel
theorem dX7_cut_36 : decode cX7_cut 36 = .ok (.putfield 185, 3) := by decide +kernel
theorem dX7_cut_39 : decode cX7_cut 39 = .ok (.aload_n 0, 1) := by decide +kernel
theorem dX7_cut_40 : decode cX7_cut 40 = .ok (.iconst 0, 1) := by decide +kernel
theorem dX7_cut_41 : decode cX7_cut 41 = .ok (.putfield 188, 3) := by decide +kernel
theorem dX7_cut_44 : decode cX7_cut 44 = .ok (.aload_n 0, 1) := by decide +kernel
theorem dX7_cut_45 : decode cX7_cut 45 = .ok (.iconst 0, 1) := by decide +kernel
theorem dX7_cut_46 : decode cX7_cut 46 = .ok (.putfield 182, 3) := by decide +kernel
theorem dX7_cut_49 : decode cX7_cut 49 = .ok (.iload_n 1, 1) := by decide +kernel
theorem dX7_cut_50 : decode cX7_cut 50 = .ok (.ifCond .eq 13, 3) := by decide +kernel
theorem dX7_cut_53 : decode cX7_cut 53 = .ok (.aload_n 0, 1) := by decide +kernel
theorem dX7_cut_54 : decode cX7_cut 54 = .ok (.getfield 64, 3) := by decide +kernel
theorem dX7_cut_57 : decode cX7_cut 57 = .ok (.aload_n 0, 1) := by decide +kernel
theorem dX7_cut_58 : decode cX7_cut 58 = .ok (.getfield 179, 3) := by decide +kernel
theorem dX7_cut_61 : decode cX7_cut 61 = .ok (.iconst 0, 1) := by decide +kernel
theorem dX7_cut_62 : decode cX7_cut 62 = .ok (.bastore, 1) := by decide +kernel
theorem dX7_cut_63 : decode cX7_cut 63 = .ok (.iconst 1, 1) := by decide +kernel
theorem dX7_cut_64 : decode cX7_cut 64 = .ok (.ireturn, 1) := by decide +kernel
theorem dX7_on_0 : decode cX7_on 0 = .ok (.aload_n 0, 1) := by decide +kernel
theorem dX7_on_1 : decode cX7_on 1 = .ok (.iconst 0, 1) := by decide +kernel
theorem dX7_on_2 : decode cX7_on 2 = .ok (.putfield 74, 3) := by decide +kernel
theorem dX7_on_5 : decode cX7_on 5 = .ok (.aload_n 0, 1) := by decide +kernel
theorem dX7_on_6 : decode cX7_on 6 = .ok (.getfield 47, 3) := by decide +kernel
theorem dX7_on_9 : decode cX7_on 9 = .ok (.ifCond .eq 5, 3) := by decide +kernel
theorem dX7_on_12 : decode cX7_on 12 = .ok (.iconst 0, 1) := by decide +kernel
theorem dX7_on_13 : decode cX7_on 13 = .ok (.ireturn, 1) := by decide +kernel
theorem dX7_on_14 : decode cX7_on 14 = .ok (.aload_n 0, 1) := by decide +kernel
theorem dX7_on_15 : decode cX7_on 15 = .ok (.iconst 1, 1) := by decide +kernel
theorem dX7_on_16 : decode cX7_on 16 = .ok (.putfield 47, 3) := by decide +kernel
theorem dX7_on_19 : decode cX7_on 19 = .ok (.aload_n 0, 1) := by decide +kernel
theorem dX7_on_20 : decode cX7_on 20 = .ok (.getfield 64, 3) := by decide +kernel
theorem dX7_on_23 : decode cX7_on 23 = .ok (.aload_n 0, 1) := by decide +kernel
theorem dX7_on_24 : decode cX7_on 24 = .ok (.getfield 179, 3) := by decide +kernel
theorem dX7_on_27 : decode cX7_on 27 = .ok (.baload, 1) := by decide +kernel
theorem dX7_on_28 : decode cX7_on 28 = .ok (.ifCond .eq 10, 3) := by decide +kernel
theorem dX7_on_31 : decode cX7_on 31 = .ok (.aload_n 0, 1) := by decide +kernel
theorem dX7_on_32 : decode cX7_on 32 = .ok (.getfield 179, 3) := by decide +kernel
theorem dX7_on_35 : decode cX7_on 35 = .ok (.goto 27, 3) := by decide +kernel
theorem dX7_on_38 : decode cX7_on 38 = .ok (.aload_n 0, 1) := by decide +kernel
theorem dX7_on_39 : decode cX7_on 39 = .ok (.getfield 64, 3) := by decide +kernel
theorem dX7_on_42 : decode cX7_on 42 = .ok (.iconst 1, 1) := by decide +kernel
theorem dX7_on_43 : decode cX7_on 43 = .ok (.aload_n 0, 1) := by decide +kernel
theorem dX7_on_44 : decode cX7_on 44 = .ok (.getfield 179, 3) := by decide +kernel
theorem dX7_on_47 : decode cX7_on 47 = .ok (.isub, 1) := by decide +kernel
theorem dX7_on_48 : decode cX7_on 48 = .ok (.baload, 1) := by decide +kernel
theorem dX7_on_49 : decode cX7_on 49 = .ok (.ifCond .eq 12, 3) := by decide +kernel
theorem dX7_on_52 : decode cX7_on 52 = .ok (.iconst 1, 1) := by decide +kernel
theorem dX7_on_53 : decode cX7_on 53 = .ok (.aload_n 0, 1) := by decide +kernel
theorem dX7_on_54 : decode cX7_on 54 = .ok (.getfield 179, 3) := by decide +kernel
theorem dX7_on_57 : decode cX7_on 57 = .ok (.isub, 1) := by decide +kernel
theorem dX7_on_58 : decode cX7_on 58 = .ok (.goto 4, 3) := by decide +kernel
theorem dX7_on_61 : decode cX7_on 61 = .ok (.iconst (-1), 1) := by decide +kernel
theorem dX7_on_62 : decode cX7_on 62 = .ok (.istore_n 1, 1) := by decide +kernel
theorem dX7_on_63 : decode cX7_on 63 = .ok (.aload_n 0, 1) := by decide +kernel
theorem dX7_on_64 : decode cX7_on 64 = .ok (.iload_n 1, 1) := by decide +kernel
theorem dX7_on_65 : decode cX7_on 65 = .ok (.iconst (-1), 1) := by decide +kernel
theorem dX7_on_66 : decode cX7_on 66 = .ok (.if_icmp .ne 7, 3) := by decide +kernel
theorem dX7_on_69 : decode cX7_on 69 = .ok (.lconst 0, 1) := by decide +kernel
theorem dX7_on_70 : decode cX7_on 70 = .ok (.goto 9, 3) := by decide +kernel
theorem dX7_on_73 : decode cX7_on 73 = .ok (.aload_n 0, 1) := by decide +kernel
theorem dX7_on_74 : decode cX7_on 74 = .ok (.getfield 71, 3) := by decide +kernel
theorem dX7_on_77 : decode cX7_on 77 = .ok (.iload_n 1, 1) := by decide +kernel
theorem dX7_on_78 : decode cX7_on 78 = .ok (.laload, 1) := by decide +kernel
theorem dX7_on_79 : decode cX7_on 79 = .ok (.putfield 163, 3) := by decide +kernel
theorem dX7_on_82 : decode cX7_on 82 = .ok (.iload_n 1, 1) := by decide +kernel
theorem dX7_on_83 : decode cX7_on 83 = .ok (.iconst (-1), 1) := by decide +kernel
theorem dX7_on_84 : decode cX7_on 84 = .ok (.if_icmp .eq 50, 3) := by decide +kernel
theorem dX7_on_87 : decode cX7_on 87 = .ok (.aload_n 0, 1) := by decide +kernel
theorem dX7_on_88 : decode cX7_on 88 = .ok (.getfield 68, 3) := by decide +kernel
theorem dX7_on_91 : decode cX7_on 91 = .ok (.iload_n 1, 1) := by decide +kernel
theorem dX7_on_92 : decode cX7_on 92 = .ok (.baload, 1) := by decide +kernel
theorem dX7_on_93 : decode cX7_on 93 = .ok (.ifCond .eq 41, 3) := by decide +kernel
theorem dX7_on_96 : decode cX7_on 96 = .ok (.aload_n 0, 1) := by decide +kernel
theorem dX7_on_97 : decode cX7_on 97 = .ok (.getfield 220, 3) := by decide +kernel
theorem dX7_on_100 : decode cX7_on 100 = .ok (.sipush 4800, 3) := by decide +kernel
theorem dX7_on_103 : decode cX7_on 103 = .ok (.if_icmp .ge 31, 3) := by decide +kernel
theorem dX7_on_106 : decode cX7_on 106 = .ok (.aload_n 0, 1) := by decide +kernel
theorem dX7_on_107 : decode cX7_on 107 = .ok (.aload_n 0, 1) := by decide +kernel
theorem dX7_on_108 : decode cX7_on 108 = .ok (.getfield 163, 3) := by decide +kernel
theorem dX7_on_111 : decode cX7_on 111 = .ok (.lconst 1, 1) := by decide +kernel
theorem dX7_on_112 : decode cX7_on 112 = .ok (.ladd, 1) := by decide +kernel
theorem dX7_on_113 : decode cX7_on 113 = .ok (.aload_n 0, 1) := by decide +kernel
theorem dX7_on_114 : decode cX7_on 114 = .ok (.getfield 130, 3) := by decide +kernel
theorem dX7_on_117 : decode cX7_on 117 = .ok (.lcmp, 1) := by decide +kernel
theorem dX7_on_118 : decode cX7_on 118 = .ok (.ifCond .ne 7, 3) := by decide +kernel
theorem dX7_on_121 : decode cX7_on 121 = .ok (.lconst 0, 1) := by decide +kernel
theorem dX7_on_122 : decode cX7_on 122 = .ok (.goto 9, 3) := by decide +kernel
theorem dX7_on_125 : decode cX7_on 125 = .ok (.aload_n 0, 1) := by decide +kernel
theorem dX7_on_126 : decode cX7_on 126 = .ok (.getfield 163, 3) := by decide +kernel
theorem dX7_on_129 : decode cX7_on 129 = .ok (.lconst 1, 1) := by decide +kernel
theorem dX7_on_130 : decode cX7_on 130 = .ok (.ladd, 1) := by decide +kernel
theorem dX7_on_131 : decode cX7_on 131 = .ok (.putfield 163, 3) := by decide +kernel
theorem dX7_on_134 : decode cX7_on 134 = .ok (.aload_n 0, 1) := by decide +kernel
theorem dX7_on_135 : decode cX7_on 135 = .ok (.aload_n 0, 1) := by decide +kernel
theorem dX7_on_136 : decode cX7_on 136 = .ok (.getfield 220, 3) := by decide +kernel
theorem dX7_on_139 : decode cX7_on 139 = .ok (.sipush 1440, 3) := by decide +kernel
theorem dX7_on_142 : decode cX7_on 142 = .ok (.if_icmp .lt 7, 3) := by decide +kernel
theorem dX7_on_145 : decode cX7_on 145 = .ok (.iconst 1, 1) := by decide +kernel
theorem dX7_on_146 : decode cX7_on 146 = .ok (.goto 4, 3) := by decide +kernel
theorem dX7_on_149 : decode cX7_on 149 = .ok (.iconst 0, 1) := by decide +kernel
theorem dX7_on_150 : decode cX7_on 150 = .ok (.putfield 200, 3) := by decide +kernel
theorem dX7_on_153 : decode cX7_on 153 = .ok (.iconst 1, 1) := by decide +kernel
theorem dX7_on_154 : decode cX7_on 154 = .ok (.ireturn, 1) := by decide +kernel
theorem dX7_angle_0 : decode cX7_angle 0 = .ok (.aload_n 0, 1) := by decide +kernel
theorem dX7_angle_1 : decode cX7_angle 1 = .ok (.iconst 0, 1) := by decide +kernel
theorem dX7_angle_2 : decode cX7_angle 2 = .ok (.putfield 74, 3) := by decide +kernel
theorem dX7_angle_5 : decode cX7_angle 5 = .ok (.aload_n 0, 1) := by decide +kernel
theorem dX7_angle_6 : decode cX7_angle 6 = .ok (.getfield 220, 3) := by decide +kernel
theorem dX7_angle_9 : decode cX7_angle 9 = .ok (.i2d, 1) := by decide +kernel
theorem dX7_angle_10 : decode cX7_angle 10 = .ok (.ldc2_w 230, 3) := by decide +kernel
theorem dX7_angle_13 : decode cX7_angle 13 = .ok (.ddiv, 1) := by decide +kernel
theorem dX7_angle_14 : decode cX7_angle 14 = .ok (.dreturn, 1) := by decide +kernel
theorem dX7_left_0 : decode cX7_left 0 = .ok (.aload_n 0, 1) := by decide +kernel
theorem dX7_left_1 : decode cX7_left 1 = .ok (.iconst 0, 1) := by decide +kernel
theorem dX7_left_2 : decode cX7_left 2 = .ok (.putfield 74, 3) := by decide +kernel
theorem dX7_left_5 : decode cX7_left 5 = .ok (.aload_n 0, 1) := by decide +kernel
theorem dX7_left_6 : decode cX7_left 6 = .ok (.getfield 151, 3) := by decide +kernel
theorem dX7_left_9 : decode cX7_left 9 = .ok (.iconst 2, 1) := by decide +kernel
theorem dX7_left_10 : decode cX7_left 10 = .ok (.if_icmp .ne 14, 3) := by decide +kernel
theorem dX7_left_13 : decode cX7_left 13 = .ok (.aload_n 0, 1) := by decide +kernel
theorem dX7_left_14 : decode cX7_left 14 = .ok (.getfield 170, 3) := by decide +kernel
theorem dX7_left_17 : decode cX7_left 17 = .ok (.i2f, 1) := by decide +kernel
theorem dX7_left_18 : decode cX7_left 18 = .ok (.ldc 246, 2) := by decide +kernel
theorem dX7_left_20 : decode cX7_left 20 = .ok (.fdiv, 1) := by decide +kernel
theorem dX7_left_21 : decode cX7_left 21 = .ok (.goto 4, 3) := by decide +kernel
theorem dX7_left_24 : decode cX7_left 24 = .ok (.fconst 0, 1) := by decide +kernel
theorem dX7_left_25 : decode cX7_left 25 = .ok (.freturn, 1) := by decide +kernel
theorem dX7_roll_0 : decode cX7_roll 0 = .ok (.aload_n 0, 1) := by decide +kernel
theorem dX7_roll_1 : decode cX7_roll 1 = .ok (.iconst 0, 1) := by decide +kernel
theorem dX7_roll_2 : decode cX7_roll 2 = .ok (.putfield 74, 3) := by decide +kernel
theorem dX7_roll_5 : decode cX7_roll 5 = .ok (.dload_n 1, 1) := by decide +kernel
theorem dX7_roll_6 : decode cX7_roll 6 = .ok (.ldc2_w 247, 3) := by decide +kernel
theorem dX7_roll_9 : decode cX7_roll 9 = .ok (.dcmp .l, 1) := by decide +kernel
theorem dX7_roll_10 : decode cX7_roll 10 = .ok (.ifCond .lt 11, 3) := by decide +kernel
theorem dX7_roll_13 : decode cX7_roll 13 = .ok (.dload_n 1, 1) := by decide +kernel
theorem dX7_roll_14 : decode cX7_roll 14 = .ok (.ldc2_w 249, 3) := by decide +kernel
theorem dX7_roll_17 : decode cX7_roll 17 = .ok (.dcmp .g, 1) := by decide +kernel
theorem dX7_roll_18 : decode cX7_roll 18 = .ok (.ifCond .le 5, 3) := by decide +kernel
theorem dX7_roll_21 : decode cX7_roll 21 = .ok (.dconst 0, 1) := by decide +kernel
theorem dX7_roll_22 : decode cX7_roll 22 = .ok (.dreturn, 1) := by decide +kernel
theorem dX7_roll_23 : decode cX7_roll 23 = .ok (.aload_n 0, 1) := by decide +kernel
theorem dX7_roll_24 : decode cX7_roll 24 = .ok (.getfield 191, 3) := by decide +kernel
theorem dX7_roll_27 : decode cX7_roll 27 = .ok (.dload_n 1, 1) := by decide +kernel
theorem dX7_roll_28 : decode cX7_roll 28 = .ok (.ldc2_w 218, 3) := by decide +kernel
theorem dX7_roll_31 : decode cX7_roll 31 = .ok (.dmul, 1) := by decide +kernel
theorem dX7_roll_32 : decode cX7_roll 32 = .ok (.d2l, 1) := by decide +kernel
theorem dX7_roll_33 : decode cX7_roll 33 = .ok (.lmul, 1) := by decide +kernel
theorem dX7_roll_34 : decode cX7_roll 34 = .ok (.ldc2_w 251, 3) := by decide +kernel
theorem dX7_roll_37 : decode cX7_roll 37 = .ok (.lrem, 1) := by decide +kernel
theorem dX7_roll_38 : decode cX7_roll 38 = .ok (.l2d, 1) := by decide +kernel
theorem dX7_roll_39 : decode cX7_roll 39 = .ok (.ldc2_w 253, 3) := by decide +kernel
theorem dX7_roll_42 : decode cX7_roll 42 = .ok (.ddiv, 1) := by decide +kernel
theorem dX7_roll_43 : decode cX7_roll 43 = .ok (.dreturn, 1) := by decide +kernel
theorem dX7_letOff_0 : decode cX7_letOff 0 = .ok (.aload_n 0, 1) := by decide +kernel
theorem dX7_letOff_1 : decode cX7_letOff 1 = .ok (.iconst 0, 1) := by decide +kernel
theorem dX7_letOff_2 : decode cX7_letOff 2 = .ok (.putfield 74, 3) := by decide +kernel
theorem dX7_letOff_5 : decode cX7_letOff 5 = .ok (.fload_n 1, 1) := by decide +kernel
theorem dX7_letOff_6 : decode cX7_letOff 6 = .ok (.ldc 255, 2) := by decide +kernel
theorem dX7_letOff_8 : decode cX7_letOff 8 = .ok (.fcmp .l, 1) := by decide +kernel
theorem dX7_letOff_9 : decode cX7_letOff 9 = .ok (.ifCond .lt 11, 3) := by decide +kernel
theorem dX7_letOff_12 : decode cX7_letOff 12 = .ok (.fload_n 1, 1) := by decide +kernel
theorem dX7_letOff_13 : decode cX7_letOff 13 = .ok (.ldc_w 256, 3) := by decide +kernel
theorem dX7_letOff_16 : decode cX7_letOff 16 = .ok (.fcmp .g, 1) := by decide +kernel
theorem dX7_letOff_17 : decode cX7_letOff 17 = .ok (.ifCond .le 5, 3) := by decide +kernel
theorem dX7_letOff_20 : decode cX7_letOff 20 = .ok (.iconst 0, 1) := by decide +kernel
theorem dX7_letOff_21 : decode cX7_letOff 21 = .ok (.ireturn, 1) := by decide +kernel
theorem dX7_letOff_22 : decode cX7_letOff 22 = .ok (.fload_n 1, 1) := by decide +kernel
theorem dX7_letOff_23 : decode cX7_letOff 23 = .ok (.f2d, 1) := by decide +kernel
theorem dX7_letOff_24 : decode cX7_letOff 24 = .ok (.ldc2_w 218, 3) := by decide +kernel
theorem dX7_letOff_27 : decode cX7_letOff 27 = .ok (.dmul, 1) := by decide +kernel
theorem dX7_letOff_28 : decode cX7_letOff 28 = .ok (.d2l, 1) := by decide +kernel
theorem dX7_letOff_29 : decode cX7_letOff 29 = .ok (.ldc2_w 257, 3) := by decide +kernel
theorem dX7_letOff_32 : decode cX7_letOff 32 = .ok (.lrem, 1) := by decide +kernel
theorem dX7_letOff_33 : decode cX7_letOff 33 = .ok (.l2i, 1) := by decide +kernel
theorem dX7_letOff_34 : decode cX7_letOff 34 = .ok (.ireturn, 1) := by decide +kernel
theorem dX7_state_0 : decode cX7_state 0 = .ok (.aload_n 0, 1) := by decide +kernel
theorem dX7_state_1 : decode cX7_state 1 = .ok (.iconst 0, 1) := by decide +kernel
theorem dX7_state_2 : decode cX7_state 2 = .ok (.putfield 74, 3) := by decide +kernel
theorem dX7_state_5 : decode cX7_state 5 = .ok (.iload_n 1, 1) := by decide +kernel
theorem dX7_state_6 : decode cX7_state 6 = .ok (.tableswitch 99 0 7 #[46, 51, 56, 61, 66, 71, 76, 86], 46) := by decide +kernel
theorem dX7_state_52 : decode cX7_state 52 = .ok (.aload_n 0, 1) := by decide +kernel
theorem dX7_state_53 : decode cX7_state 53 = .ok (.getfield 151, 3) := by decide +kernel
theorem dX7_state_56 : decode cX7_state 56 = .ok (.ireturn, 1) := by decide +kernel
theorem dX7_state_57 : decode cX7_state 57 = .ok (.aload_n 0, 1) := by decide +kernel
theorem dX7_state_58 : decode cX7_state 58 = .ok (.getfield 185, 3) := by decide +kernel
theorem dX7_state_61 : decode cX7_state 61 = .ok (.ireturn, 1) := by decide +kernel
theorem dX7_state_62 : decode cX7_state 62 = .ok (.aload_n 0, 1) := by decide +kernel
theorem dX7_state_63 : decode cX7_state 63 = .ok (.getfield 188, 3) := by decide +kernel
theorem dX7_state_66 : decode cX7_state 66 = .ok (.ireturn, 1) := by decide +kernel
theorem dX7_state_67 : decode cX7_state 67 = .ok (.aload_n 0, 1) := by decide +kernel
theorem dX7_state_68 : decode cX7_state 68 = .ok (.getfield 200, 3) := by decide +kernel
theorem dX7_state_71 : decode cX7_state 71 = .ok (.ireturn, 1) := by decide +kernel
theorem dX7_state_72 : decode cX7_state 72 = .ok (.aload_n 0, 1) := by decide +kernel
theorem dX7_state_73 : decode cX7_state 73 = .ok (.getfield 210, 3) := by decide +kernel
theorem dX7_state_76 : decode cX7_state 76 = .ok (.ireturn, 1) := by decide +kernel
theorem dX7_state_77 : decode cX7_state 77 = .ok (.aload_n 0, 1) := by decide +kernel
theorem dX7_state_78 : decode cX7_state 78 = .ok (.getfield 173, 3) := by decide +kernel
theorem dX7_state_81 : decode cX7_state 81 = .ok (.ireturn, 1) := by decide +kernel
theorem dX7_state_82 : decode cX7_state 82 = .ok (.aload_n 0, 1) := by decide +kernel
theorem dX7_state_83 : decode cX7_state 83 = .ok (.getfield 191, 3) := by decide +kernel
theorem dX7_state_86 : decode cX7_state 86 = .ok (.ldc2_w 259, 3) := by decide +kernel
theorem dX7_state_89 : decode cX7_state 89 = .ok (.ldiv, 1) := by decide +kernel
theorem dX7_state_90 : decode cX7_state 90 = .ok (.l2i, 1) := by decide +kernel
theorem dX7_state_91 : decode cX7_state 91 = .ok (.ireturn, 1) := by decide +kernel
theorem dX7_state_92 : decode cX7_state 92 = .ok (.aload_n 0, 1) := by decide +kernel
theorem dX7_state_93 : decode cX7_state 93 = .ok (.getfield 47, 3) := by decide +kernel
theorem dX7_state_96 : decode cX7_state 96 = .ok (.ifCond .eq 7, 3) := by decide +kernel
theorem dX7_state_99 : decode cX7_state 99 = .ok (.iconst 1, 1) := by decide +kernel
theorem dX7_state_100 : decode cX7_state 100 = .ok (.goto 4, 3) := by decide +kernel
theorem dX7_state_103 : decode cX7_state 103 = .ok (.iconst 0, 1) := by decide +kernel
theorem dX7_state_104 : decode cX7_state 104 = .ok (.ireturn, 1) := by decide +kernel
theorem dX7_state_105 : decode cX7_state 105 = .ok (.iconst (-1), 1) := by decide +kernel
theorem dX7_state_106 : decode cX7_state 106 = .ok (.ireturn, 1) := by decide +kernel
theorem dX7_count_0 : decode cX7_count 0 = .ok (.aload_n 0, 1) := by decide +kernel
theorem dX7_count_1 : decode cX7_count 1 = .ok (.iconst 0, 1) := by decide +kernel
theorem dX7_count_2 : decode cX7_count 2 = .ok (.putfield 74, 3) := by decide +kernel
theorem dX7_count_5 : decode cX7_count 5 = .ok (.iload_n 1, 1) := by decide +kernel
theorem dX7_count_6 : decode cX7_count 6 = .ok (.ifCond .ne 10, 3) := by decide +kernel
theorem dX7_count_9 : decode cX7_count 9 = .ok (.aload_n 0, 1) := by decide +kernel
theorem dX7_count_10 : decode cX7_count 10 = .ok (.getfield 163, 3) := by decide +kernel
theorem dX7_count_13 : decode cX7_count 13 = .ok (.goto 30, 3) := by decide +kernel
theorem dX7_count_16 : decode cX7_count 16 = .ok (.iload_n 1, 1) := by decide +kernel
theorem dX7_count_17 : decode cX7_count 17 = .ok (.iconst 1, 1) := by decide +kernel
theorem dX7_count_18 : decode cX7_count 18 = .ok (.if_icmp .ne 10, 3) := by decide +kernel
theorem dX7_count_21 : decode cX7_count 21 = .ok (.aload_n 0, 1) := by decide +kernel
theorem dX7_count_22 : decode cX7_count 22 = .ok (.getfield 194, 3) := by decide +kernel
theorem dX7_count_25 : decode cX7_count 25 = .ok (.goto 18, 3) := by decide +kernel
theorem dX7_count_28 : decode cX7_count 28 = .ok (.iload_n 1, 1) := by decide +kernel
theorem dX7_count_29 : decode cX7_count 29 = .ok (.iconst 2, 1) := by decide +kernel
theorem dX7_count_30 : decode cX7_count 30 = .ok (.if_icmp .ne 10, 3) := by decide +kernel
theorem dX7_count_33 : decode cX7_count 33 = .ok (.aload_n 0, 1) := by decide +kernel
theorem dX7_count_34 : decode cX7_count 34 = .ok (.getfield 213, 3) := by decide +kernel
theorem dX7_count_37 : decode cX7_count 37 = .ok (.goto 6, 3) := by decide +kernel
theorem dX7_count_40 : decode cX7_count 40 = .ok (.ldc2_w 261, 3) := by decide +kernel
theorem dX7_count_43 : decode cX7_count 43 = .ok (.lreturn, 1) := by decide +kernel
theorem dX7_cloth_0 : decode cX7_cloth 0 = .ok (.aload_n 0, 1) := by decide +kernel
theorem dX7_cloth_1 : decode cX7_cloth 1 = .ok (.iconst 0, 1) := by decide +kernel
theorem dX7_cloth_2 : decode cX7_cloth 2 = .ok (.putfield 74, 3) := by decide +kernel
theorem dX7_cloth_5 : decode cX7_cloth 5 = .ok (.iload_n 1, 1) := by decide +kernel
theorem dX7_cloth_6 : decode cX7_cloth 6 = .ok (.ifCond .lt 11, 3) := by decide +kernel
theorem dX7_cloth_9 : decode cX7_cloth 9 = .ok (.iload_n 1, 1) := by decide +kernel
theorem dX7_cloth_10 : decode cX7_cloth 10 = .ok (.aload_n 0, 1) := by decide +kernel
theorem dX7_cloth_11 : decode cX7_cloth 11 = .ok (.getfield 182, 3) := by decide +kernel
theorem dX7_cloth_14 : decode cX7_cloth 14 = .ok (.if_icmp .lt 5, 3) := by decide +kernel
theorem dX7_cloth_17 : decode cX7_cloth 17 = .ok (.iconst (-1), 1) := by decide +kernel
theorem dX7_cloth_18 : decode cX7_cloth 18 = .ok (.ireturn, 1) := by decide +kernel
theorem dX7_cloth_19 : decode cX7_cloth 19 = .ok (.aload_n 0, 1) := by decide +kernel
theorem dX7_cloth_20 : decode cX7_cloth 20 = .ok (.getfield 182, 3) := by decide +kernel
theorem dX7_cloth_23 : decode cX7_cloth 23 = .ok (.iconst 1, 1) := by decide +kernel
theorem dX7_cloth_24 : decode cX7_cloth 24 = .ok (.isub, 1) := by decide +kernel
theorem dX7_cloth_25 : decode cX7_cloth 25 = .ok (.iload_n 1, 1) := by decide +kernel
theorem dX7_cloth_26 : decode cX7_cloth 26 = .ok (.isub, 1) := by decide +kernel
theorem dX7_cloth_27 : decode cX7_cloth 27 = .ok (.istore_n 3, 1) := by decide +kernel
theorem dX7_cloth_28 : decode cX7_cloth 28 = .ok (.iload_n 2, 1) := by decide +kernel
theorem dX7_cloth_29 : decode cX7_cloth 29 = .ok (.ifCond .ne 12, 3) := by decide +kernel
theorem dX7_cloth_32 : decode cX7_cloth 32 = .ok (.aload_n 0, 1) := by decide +kernel
theorem dX7_cloth_33 : decode cX7_cloth 33 = .ok (.getfield 55, 3) := by decide +kernel
theorem dX7_cloth_36 : decode cX7_cloth 36 = .ok (.iload_n 3, 1) := by decide +kernel
theorem dX7_cloth_37 : decode cX7_cloth 37 = .ok (.iaload, 1) := by decide +kernel
theorem dX7_cloth_38 : decode cX7_cloth 38 = .ok (.goto 32, 3) := by decide +kernel
theorem dX7_cloth_41 : decode cX7_cloth 41 = .ok (.iload_n 2, 1) := by decide +kernel
theorem dX7_cloth_42 : decode cX7_cloth 42 = .ok (.iconst 1, 1) := by decide +kernel
theorem dX7_cloth_43 : decode cX7_cloth 43 = .ok (.if_icmp .ne 12, 3) := by decide +kernel
theorem dX7_cloth_46 : decode cX7_cloth 46 = .ok (.aload_n 0, 1) := by decide +kernel
theorem dX7_cloth_47 : decode cX7_cloth 47 = .ok (.getfield 58, 3) := by decide +kernel
theorem dX7_cloth_50 : decode cX7_cloth 50 = .ok (.iload_n 3, 1) := by decide +kernel
theorem dX7_cloth_51 : decode cX7_cloth 51 = .ok (.iaload, 1) := by decide +kernel
theorem dX7_cloth_52 : decode cX7_cloth 52 = .ok (.goto 18, 3) := by decide +kernel
theorem dX7_cloth_55 : decode cX7_cloth 55 = .ok (.iload_n 2, 1) := by decide +kernel
theorem dX7_cloth_56 : decode cX7_cloth 56 = .ok (.iconst 2, 1) := by decide +kernel
theorem dX7_cloth_57 : decode cX7_cloth 57 = .ok (.if_icmp .ne 12, 3) := by decide +kernel
theorem dX7_cloth_60 : decode cX7_cloth 60 = .ok (.aload_n 0, 1) := by decide +kernel
theorem dX7_cloth_61 : decode cX7_cloth 61 = .ok (.getfield 61, 3) := by decide +kernel
theorem dX7_cloth_64 : decode cX7_cloth 64 = .ok (.iload_n 3, 1) := by decide +kernel
theorem dX7_cloth_65 : decode cX7_cloth 65 = .ok (.iaload, 1) := by decide +kernel
theorem dX7_cloth_66 : decode cX7_cloth 66 = .ok (.goto 4, 3) := by decide +kernel
theorem dX7_cloth_69 : decode cX7_cloth 69 = .ok (.iconst (-1), 1) := by decide +kernel
theorem dX7_cloth_70 : decode cX7_cloth 70 = .ok (.ireturn, 1) := by decide +kernel
theorem dJ9_floorDiv_f86c9_0 : decode cJ9_floorDiv_f86c9 0 = .ok (.lload_n 0, 1) := by decide +kernel
theorem dJ9_floorDiv_f86c9_1 : decode cJ9_floorDiv_f86c9 1 = .ok (.lload_n 2, 1) := by decide +kernel
theorem dJ9_floorDiv_f86c9_2 : decode cJ9_floorDiv_f86c9 2 = .ok (.ldiv, 1) := by decide +kernel
theorem dJ9_floorDiv_f86c9_3 : decode cJ9_floorDiv_f86c9 3 = .ok (.lstore 4, 2) := by decide +kernel
theorem dJ9_floorDiv_f86c9_5 : decode cJ9_floorDiv_f86c9 5 = .ok (.lload_n 0, 1) := by decide +kernel
theorem dJ9_floorDiv_f86c9_6 : decode cJ9_floorDiv_f86c9 6 = .ok (.lload_n 2, 1) := by decide +kernel
theorem dJ9_floorDiv_f86c9_7 : decode cJ9_floorDiv_f86c9 7 = .ok (.lxor, 1) := by decide +kernel
theorem dJ9_floorDiv_f86c9_8 : decode cJ9_floorDiv_f86c9 8 = .ok (.lconst 0, 1) := by decide +kernel
theorem dJ9_floorDiv_f86c9_9 : decode cJ9_floorDiv_f86c9 9 = .ok (.lcmp, 1) := by decide +kernel
theorem dJ9_floorDiv_f86c9_10 : decode cJ9_floorDiv_f86c9 10 = .ok (.ifCond .ge 17, 3) := by decide +kernel
theorem dJ9_floorDiv_f86c9_13 : decode cJ9_floorDiv_f86c9 13 = .ok (.lload 4, 2) := by decide +kernel
theorem dJ9_floorDiv_f86c9_15 : decode cJ9_floorDiv_f86c9 15 = .ok (.lload_n 2, 1) := by decide +kernel
theorem dJ9_floorDiv_f86c9_16 : decode cJ9_floorDiv_f86c9 16 = .ok (.lmul, 1) := by decide +kernel
theorem dJ9_floorDiv_f86c9_17 : decode cJ9_floorDiv_f86c9 17 = .ok (.lload_n 0, 1) := by decide +kernel
theorem dJ9_floorDiv_f86c9_18 : decode cJ9_floorDiv_f86c9 18 = .ok (.lcmp, 1) := by decide +kernel
theorem dJ9_floorDiv_f86c9_19 : decode cJ9_floorDiv_f86c9 19 = .ok (.ifCond .eq 8, 3) := by decide +kernel
theorem dJ9_floorDiv_f86c9_22 : decode cJ9_floorDiv_f86c9 22 = .ok (.lload 4, 2) := by decide +kernel
theorem dJ9_floorDiv_f86c9_24 : decode cJ9_floorDiv_f86c9 24 = .ok (.lconst 1, 1) := by decide +kernel
theorem dJ9_floorDiv_f86c9_25 : decode cJ9_floorDiv_f86c9 25 = .ok (.lsub, 1) := by decide +kernel
theorem dJ9_floorDiv_f86c9_26 : decode cJ9_floorDiv_f86c9 26 = .ok (.lreturn, 1) := by decide +kernel
theorem dJ9_floorDiv_f86c9_27 : decode cJ9_floorDiv_f86c9 27 = .ok (.lload 4, 2) := by decide +kernel
theorem dJ9_floorDiv_f86c9_29 : decode cJ9_floorDiv_f86c9 29 = .ok (.lreturn, 1) := by decide +kernel
theorem dJ9_floorMod_7cf53_0 : decode cJ9_floorMod_7cf53 0 = .ok (.iload_n 0, 1) := by decide +kernel
theorem dJ9_floorMod_7cf53_1 : decode cJ9_floorMod_7cf53 1 = .ok (.iload_n 1, 1) := by decide +kernel
theorem dJ9_floorMod_7cf53_2 : decode cJ9_floorMod_7cf53 2 = .ok (.irem, 1) := by decide +kernel
theorem dJ9_floorMod_7cf53_3 : decode cJ9_floorMod_7cf53 3 = .ok (.istore_n 2, 1) := by decide +kernel
theorem dJ9_floorMod_7cf53_4 : decode cJ9_floorMod_7cf53 4 = .ok (.iload_n 0, 1) := by decide +kernel
theorem dJ9_floorMod_7cf53_5 : decode cJ9_floorMod_7cf53 5 = .ok (.iload_n 1, 1) := by decide +kernel
theorem dJ9_floorMod_7cf53_6 : decode cJ9_floorMod_7cf53 6 = .ok (.ixor, 1) := by decide +kernel
theorem dJ9_floorMod_7cf53_7 : decode cJ9_floorMod_7cf53 7 = .ok (.ifCond .ge 11, 3) := by decide +kernel
theorem dJ9_floorMod_7cf53_10 : decode cJ9_floorMod_7cf53 10 = .ok (.iload_n 2, 1) := by decide +kernel
theorem dJ9_floorMod_7cf53_11 : decode cJ9_floorMod_7cf53 11 = .ok (.ifCond .eq 7, 3) := by decide +kernel
theorem dJ9_floorMod_7cf53_14 : decode cJ9_floorMod_7cf53 14 = .ok (.iload_n 2, 1) := by decide +kernel
theorem dJ9_floorMod_7cf53_15 : decode cJ9_floorMod_7cf53 15 = .ok (.iload_n 1, 1) := by decide +kernel
theorem dJ9_floorMod_7cf53_16 : decode cJ9_floorMod_7cf53 16 = .ok (.iadd, 1) := by decide +kernel
theorem dJ9_floorMod_7cf53_17 : decode cJ9_floorMod_7cf53 17 = .ok (.ireturn, 1) := by decide +kernel
theorem dJ9_floorMod_7cf53_18 : decode cJ9_floorMod_7cf53 18 = .ok (.iload_n 2, 1) := by decide +kernel
theorem dJ9_floorMod_7cf53_19 : decode cJ9_floorMod_7cf53 19 = .ok (.ireturn, 1) := by decide +kernel
theorem dJ9_max_f86c9_0 : decode cJ9_max_f86c9 0 = .ok (.lload_n 0, 1) := by decide +kernel
theorem dJ9_max_f86c9_1 : decode cJ9_max_f86c9 1 = .ok (.lload_n 2, 1) := by decide +kernel
theorem dJ9_max_f86c9_2 : decode cJ9_max_f86c9 2 = .ok (.lcmp, 1) := by decide +kernel
theorem dJ9_max_f86c9_3 : decode cJ9_max_f86c9 3 = .ok (.ifCond .lt 7, 3) := by decide +kernel
theorem dJ9_max_f86c9_6 : decode cJ9_max_f86c9 6 = .ok (.lload_n 0, 1) := by decide +kernel
theorem dJ9_max_f86c9_7 : decode cJ9_max_f86c9 7 = .ok (.goto 4, 3) := by decide +kernel
theorem dJ9_max_f86c9_10 : decode cJ9_max_f86c9 10 = .ok (.lload_n 2, 1) := by decide +kernel
theorem dJ9_max_f86c9_11 : decode cJ9_max_f86c9 11 = .ok (.lreturn, 1) := by decide +kernel
theorem dJ9_min_7cf53_0 : decode cJ9_min_7cf53 0 = .ok (.iload_n 0, 1) := by decide +kernel
theorem dJ9_min_7cf53_1 : decode cJ9_min_7cf53 1 = .ok (.iload_n 1, 1) := by decide +kernel
theorem dJ9_min_7cf53_2 : decode cJ9_min_7cf53 2 = .ok (.if_icmp .gt 7, 3) := by decide +kernel
theorem dJ9_min_7cf53_5 : decode cJ9_min_7cf53 5 = .ok (.iload_n 0, 1) := by decide +kernel
theorem dJ9_min_7cf53_6 : decode cJ9_min_7cf53 6 = .ok (.goto 4, 3) := by decide +kernel
theorem dJ9_min_7cf53_9 : decode cJ9_min_7cf53 9 = .ok (.iload_n 1, 1) := by decide +kernel
theorem dJ9_min_7cf53_10 : decode cJ9_min_7cf53 10 = .ok (.ireturn, 1) := by decide +kernel
theorem dJ9_min_f86c9_0 : decode cJ9_min_f86c9 0 = .ok (.lload_n 0, 1) := by decide +kernel
theorem dJ9_min_f86c9_1 : decode cJ9_min_f86c9 1 = .ok (.lload_n 2, 1) := by decide +kernel
theorem dJ9_min_f86c9_2 : decode cJ9_min_f86c9 2 = .ok (.lcmp, 1) := by decide +kernel
theorem dJ9_min_f86c9_3 : decode cJ9_min_f86c9 3 = .ok (.ifCond .gt 7, 3) := by decide +kernel
theorem dJ9_min_f86c9_6 : decode cJ9_min_f86c9 6 = .ok (.lload_n 0, 1) := by decide +kernel
theorem dJ9_min_f86c9_7 : decode cJ9_min_f86c9 7 = .ok (.goto 4, 3) := by decide +kernel
theorem dJ9_min_f86c9_10 : decode cJ9_min_f86c9 10 = .ok (.lload_n 2, 1) := by decide +kernel
theorem dJ9_min_f86c9_11 : decode cJ9_min_f86c9 11 = .ok (.lreturn, 1) := by decide +kernel
set_option maxRecDepth 20000 in
theorem ggL_turn_X6_turn : GoodIn wsL_turn wsX6_turn := goodIn_ca (goodIn_ca (goodIn_r _ [7, 8, 9, 10, 11, 12, 13, 14, 15, 16, 17, 18, 19, 20, 21, 22, 6, 23, 24, 25, 26, 27, 28, 29, 30, 31, 32, 33, 34, 35, 36, 37, 38, 39, 40, 41, 42, 43, 44, 45, 46, 47, 48, 49, 50, 51, 52, 53, 54, 55, 56, 57, 58, 59, 60, 61, 62, 63, 64, 65, 66, 67, 68, 69, 70, 71, 72, 73, 74, 75, 76, 77, 78, 79, 80, 81, 82, 83, 84, 85, 86, 87, 88, 89, 90, 91, 92, 93, 94, 95, 96, 97, 98, 99, 100, 101, 102, 103, 104, 105, 106, 107, 108, 109, 110, 111, 112, 113, 114, 115, 116, 117, 118, 119, 120, 121, 122, 123, 124, 125, 126, 127, 128, 129, 130, 131, 132, 133, 134, 135, 136, 137, 138, 139, 140, 141, 142, 143, 144, 145, 146, 147, 148, 149, 150, 151, 152, 153, 154, 155, 156, 157, 158, 159, 160, 161, 162, 163, 164, 165, 166, 167, 168, 169, 170, 171, 172, 173, 174, 175, 176, 177, 178, 179, 180, 181, 182, 183, 184, 185, 186, 187, 188] (by decide +kernel) (by decide +kernel)) (goodIn_sub (fun _ h => List.mem_cons_of_mem _ (List.mem_append_left _ (List.mem_append_right _ h))) (by decide +kernel))) (goodIn_sub (fun _ h => List.mem_cons_of_mem _ (List.mem_append_right _ h)) (by decide +kernel))
set_option maxRecDepth 20000 in
theorem gL_turn_X6_turn : GoodIn wsL_turn (wsV RL 7 RX6 yX6_turn wsX6_turn) := goodIn_app (goodIn_of _ (by decide +kernel)) ggL_turn_X6_turn
end
section
/-! ===== the frame of all contracts: worlds, entry, calls, joins, loops ===== -/
abbrev jT (cI cJ cZ cD : ClassId) : List (ClassId × FieldType) := [(cI, .int), (cJ, .long), (cZ, .boolean), (cD, .double)]
def jx_nest : List (String × Nat × String × String × String × String) := [(RX2, 59, RX5, "size", "I", RX6), (RX2, 112, RX1, "size", "I", RX6), (RX2, 71, RX1, "picks", "J", RX6), (RX6, 93, RX1, "picks", "J", RX6), (RX6, 68, RX2, "tape", "LLoomDesk$Tape;", RX6), (RX6, 142, RX4, "at", "I", RX6), (RX6, 100, RX4, "mode", "I", RX6), (RX6, 168, RX4, "toGo", "I", RX6), (RX6, 152, RX4, "pace", "I", RX6), (RX6, 189, RX4, "orders", "I", RX6), (RX6, 203, RX4, "turns", "J", RX6), (RX6, 200, RX0, "beaten", "J", RX6), (RX6, 176, RX0, "taken", "J", RX6)]
def jx_alw (j : Nat) : Int32 := [20, 25, 40, 50, 80, 100, 125, 160, 200, 250, 400].getD j 0
/-- what every method may take of the machine: the nest's words, and the class's one constant array -/
def jx_N (U : State) : Prop := ∀ q ∈ jx_nest, va_Nw (.fieldLinkNest q.1 q.2.1 q.2.2.1 q.2.2.2.1 q.2.2.2.2.1 q.2.2.2.2.2) U
def jx_X (tA : Nat) (A : Nat → Prop) (U : State) (H : Heap) : Prop := jx_N U ∧ va_Z RX2 "ALLOWED" "[I" (.ref tA) A U H ∧ va_T .int tA 11 (fun j => .int (jx_alw j)) A U H
theorem jx_X.down {tA : Nat} {A B : Nat → Prop} {s U : State} {H0 H : Heap} {locs : List Loc} (h : jx_X tA A s H0) (hW : s.WarmedH U.vm) (hS : va_S A H0 H locs) (hAB : ∀ q, B q → A q) : jx_X tA B U H := by
  obtain ⟨h1, h2, h3⟩ := h
  have hk : ∀ a : Nat, a < H0.size → ¬ A a → H[a]? = H0[a]? := fun a h5 h6 => hS.2.1 a h5 h6
  exact ⟨fun q hq => va_Nw.warmF hW (h1 q hq), ((h2.kept hk).moved hW.alike).narrow hAB, ((h3.kept hk).moved hW.alike).narrow hAB⟩
theorem jx_X.calls {tA : Nat} {A : Nat → Prop} {U : State} {H : Heap} {g : JFrame} {mk : MethodId} {a : Array Value} (h : jx_X tA A U H) : jx_X tA A (U.calling g mk a) H := by
  obtain ⟨h1, h2, h3⟩ := h
  exact ⟨fun q hq => va_Nw.same rfl rfl (h1 q hq), h2.moved (Vm.Alike.refl U.vm), h3.moved (Vm.Alike.refl U.vm)⟩
def jx_Pc (D : va_G) (tys : List (ClassId × FieldType)) (tA : Nat) (av : List Value) (w0 : va_W) (sz : Nat) : Array Value → State → Prop :=
  va_Pc av (fun U => U.heap.size = sz ∧ va_P D vwCl w0 U.heap ∧ va_K D vwCl tys U ∧ va_D (fun _ => True) w0 ∧ jx_X tA (va_A w0 sz) U U.heap)
def jx_B {S : Type} (D : va_G) (tys : List (ClassId × FieldType)) (A : Nat → Prop) (w1 : S → va_W) : S → State → Prop := fun u t => va_P D vwCl (w1 u) t.heap ∧ va_K D vwCl tys t ∧ va_D A (w1 u)
def jx_Qi {S : Type} (D : va_G) (tys : List (ClassId × FieldType)) (post : Int32 → S → Prop) (w1 : S → va_W) (A : Nat → Prop) : Array Value → State → Outcome → State → Prop := va_Qi post (jx_B D tys A w1) A
def jx_Ql {S : Type} (D : va_G) (tys : List (ClassId × FieldType)) (post : Int64 → S → Prop) (w1 : S → va_W) (A : Nat → Prop) : Array Value → State → Outcome → State → Prop := va_Ql post (jx_B D tys A w1) A
def jx_Qf {S : Type} (D : va_G) (tys : List (ClassId × FieldType)) (post : UInt32 → S → Prop) (w1 : S → va_W) (A : Nat → Prop) : Array Value → State → Outcome → State → Prop := va_Qf post (jx_B D tys A w1) A
def jx_Qd {S : Type} (D : va_G) (tys : List (ClassId × FieldType)) (post : UInt64 → S → Prop) (w1 : S → va_W) (A : Nat → Prop) : Array Value → State → Outcome → State → Prop := va_Qd post (jx_B D tys A w1) A
def jx_Qv {S : Type} (D : va_G) (tys : List (ClassId × FieldType)) (post : S → Prop) (w1 : S → va_W) (A : Nat → Prop) : Array Value → State → Outcome → State → Prop := va_Qv post (jx_B D tys A w1) A
def jx_Qr {S : Type} (D : va_G) (tys : List (ClassId × FieldType)) (post : S → Prop) (ra : S → Nat) (w1 : S → va_W) (A : Nat → Prop) : Array Value → State → Outcome → State → Prop := va_Qr post (fun u a t => a = ra u ∧ jx_B D tys A w1 u t) A
/-- a contract: no cell is made -/
def jx_M (l : Launch) (y : MethodName) (ws : List Cond) (rm : Room) (D : va_G) (tys : List (ClassId × FieldType)) (tA : Nat) (av : List Value) (w0 : va_W) (Qc : (Nat → Prop) → Array Value → State → Outcome → State → Prop) : Prop :=
  ∀ sz : Nat, Met l y ws rm (jx_Pc D tys tA av w0 sz) (Qc (va_A w0 sz)) 0 0 (va_A w0 sz)
theorem jx_of {l : Launch} {y : MethodName} {ws ws' : List Cond} {rm : Room} {D : va_G} {tys : List (ClassId × FieldType)} {tA : Nat} {av : List Value} {w0 : va_W} {Qc : (Nat → Prop) → Array Value → State → Outcome → State → Prop} {cc : ByteArray} {maxL : Nat} {ret : Option FieldType}
    (hy : plainName y.cls = true) (hw : ws = Cond.code y cc maxL ret :: ws') (hent : (lg_sl av).length ≤ maxL)
    (body : ∀ (p : Program) (e : Env) (s : State) (m : MethodId) (below : List Frame) (meth : Method) (c : Code) (A : Nat → Prop) (ls : Array Slot), p.tables.exec = Jvm.exec → c.code = cc → meth.sig.returnType = ret → meth.locks = false → c.maxLocals = maxL → s.vm.findClass y.cls = some m.cls → (∀ w ∈ ws, w.before av.toArray s = true) → va_K D vwCl tys s → va_P D vwCl w0 s.heap → va_D A w0 → (∀ q : Nat, s.heap.size ≤ q → A q) → va_S A s.heap s.heap [] → jx_X tA A s s.heap → lv_has ls maxL (lv_args 0 av) →
      W p l e (headSpec ws rm).room s m av.toArray below meth c s.heap [] 0 0 (MQ below (Qc A) av.toArray s 0 0 A) (F0 m 0 ls [])) : jx_M l y ws rm D tys tA av w0 Qc := by
  intro sz
  refine Met.ofW (cc := cc) (maxL := maxL) (ret := ret) hy hw ?_
  intro p e s m args below meth c s₁ B hml hv
  obtain ⟨rfl, hsz, hP, hK, hD0, hX⟩ := hv
  subst hsz
  have hl := lv_entry av (n := maxL) hent
  rw [lg_entry_eq]
  exact body p e s m below meth c _ _ B.exec B.bytes B.returns B.notSynchronized hml (findClass_of_methodNamed B.named) (atoms_spec (ws := ws) B.pre) hK hP (hD0.self (sz := s.heap.size)) (fun q h => Or.inr h) va_S.rf hX hl
section JXR
variable {p : Program} {l : Launch} {e : Env} {R : Room} {s : State} {m : MethodId} {args : Array Value} {below : List Frame} {meth : Method} {c : Code} {H : Heap} {locs : List Loc} {cells slots : Nat} {Q : State → Prop}
variable {D : va_G} {tys : List (ClassId × FieldType)} {A : Nat → Prop} {cc : ByteArray} {pc : Nat} {ls : Array Slot} {w : va_W}
/-! the ends -/
theorem jx_iret {S : Type} {post : Int32 → S → Prop} {w1 : S → va_W} {v : Int32} (u : S) (hx : p.tables.exec = Jvm.exec) (hb : c.code = cc) (hr : meth.sig.returnType = some .int) (hlocks : meth.locks = false) (hK : va_K D vwCl tys s) (hP : va_P D vwCl w H) (hD : va_D A w) (hS : va_S A s.heap H locs) (hw : w = w1 u) (hpost : post v u) (hdg : decode cc pc = .ok (.ireturn, 1)) :
    W p l e R s m args below meth c H locs 0 0 (MQ below (jx_Qi D tys post w1 A) args s 0 0 A) (F0 m pc ls [.int v]) := by
  subst hw
  exact W.iret hx hb hr (fun t ht hW => ⟨⟨v, u, rfl, hpost, by rw [ht]; exact hP, va_K.moved hW.alike hK, hD⟩, hS.F ht⟩) hS.2.2 hdg hlocks
theorem jx_zret {S : Type} {post : Int32 → S → Prop} {w1 : S → va_W} {v : Int32} (u : S) (hx : p.tables.exec = Jvm.exec) (hb : c.code = cc) (hr : meth.sig.returnType = some .boolean) (hlocks : meth.locks = false) (hK : va_K D vwCl tys s) (hP : va_P D vwCl w H) (hD : va_D A w) (hS : va_S A s.heap H locs) (hw : w = w1 u) (hpost : post v u) (hz : v = 0 ∨ v = 1) (hdg : decode cc pc = .ok (.ireturn, 1)) :
    W p l e R s m args below meth c H locs 0 0 (MQ below (jx_Qi D tys post w1 A) args s 0 0 A) (F0 m pc ls [.int v]) := by
  subst hw
  exact W.zret (ty := .boolean) hx hb hr (by rcases hz with rfl | rfl <;> rfl) (fun t ht hW => ⟨⟨v, u, rfl, hpost, by rw [ht]; exact hP, va_K.moved hW.alike hK, hD⟩, hS.F ht⟩) hS.2.2 hdg hlocks
theorem jx_lret {S : Type} {post : Int64 → S → Prop} {w1 : S → va_W} {v : Int64} (u : S) (hx : p.tables.exec = Jvm.exec) (hb : c.code = cc) (hr : meth.sig.returnType = some .long) (hlocks : meth.locks = false) (hK : va_K D vwCl tys s) (hP : va_P D vwCl w H) (hD : va_D A w) (hS : va_S A s.heap H locs) (hw : w = w1 u) (hpost : post v u) (hdg : decode cc pc = .ok (.lreturn, 1)) :
    W p l e R s m args below meth c H locs 0 0 (MQ below (jx_Ql D tys post w1 A) args s 0 0 A) (F0 m pc ls [.long v]) := by
  subst hw
  exact W.lret hx hb hr (fun t ht hW => ⟨⟨v, u, rfl, hpost, by rw [ht]; exact hP, va_K.moved hW.alike hK, hD⟩, hS.F ht⟩) hS.2.2 hdg hlocks
theorem jx_fret {S : Type} {post : UInt32 → S → Prop} {w1 : S → va_W} {v : UInt32} (u : S) (hx : p.tables.exec = Jvm.exec) (hb : c.code = cc) (hr : meth.sig.returnType = some .float) (hlocks : meth.locks = false) (hK : va_K D vwCl tys s) (hP : va_P D vwCl w H) (hD : va_D A w) (hS : va_S A s.heap H locs) (hw : w = w1 u) (hpost : post v u) (hdg : decode cc pc = .ok (.freturn, 1)) :
    W p l e R s m args below meth c H locs 0 0 (MQ below (jx_Qf D tys post w1 A) args s 0 0 A) (F0 m pc ls [.float v]) := by
  subst hw
  exact W.fret hx hb hr (fun t ht hW => ⟨⟨v, u, rfl, hpost, by rw [ht]; exact hP, va_K.moved hW.alike hK, hD⟩, hS.F ht⟩) hS.2.2 hdg
theorem jx_dret {S : Type} {post : UInt64 → S → Prop} {w1 : S → va_W} {v : UInt64} (u : S) (hx : p.tables.exec = Jvm.exec) (hb : c.code = cc) (hr : meth.sig.returnType = some .double) (hlocks : meth.locks = false) (hK : va_K D vwCl tys s) (hP : va_P D vwCl w H) (hD : va_D A w) (hS : va_S A s.heap H locs) (hw : w = w1 u) (hpost : post v u) (hdg : decode cc pc = .ok (.dreturn, 1)) :
    W p l e R s m args below meth c H locs 0 0 (MQ below (jx_Qd D tys post w1 A) args s 0 0 A) (F0 m pc ls [.double v]) := by
  subst hw
  exact W.dret hx hb hr (fun t ht hW => ⟨⟨v, u, rfl, hpost, by rw [ht]; exact hP, va_K.moved hW.alike hK, hD⟩, hS.F ht⟩) hS.2.2 hdg
theorem jx_vret {S : Type} {post : S → Prop} {w1 : S → va_W} (u : S) (hx : p.tables.exec = Jvm.exec) (hb : c.code = cc) (hr : meth.sig.returnType = none) (hlocks : meth.locks = false) (hK : va_K D vwCl tys s) (hP : va_P D vwCl w H) (hD : va_D A w) (hS : va_S A s.heap H locs) (hw : w = w1 u) (hpost : post u) (hdg : decode cc pc = .ok (.return_, 1)) :
    W p l e R s m args below meth c H locs 0 0 (MQ below (jx_Qv D tys post w1 A) args s 0 0 A) (F0 m pc ls []) := by
  subst hw
  exact W.vret hx hb hr (fun t ht hW => ⟨⟨u, rfl, hpost, by rw [ht]; exact hP, va_K.moved hW.alike hK, hD⟩, hS.F ht⟩) hS.2.2 hdg hlocks
/-! calls -/
variable {H0 : Heap} {ws wc wr : va_W} {rest st0 : List Value} {a : Array Value} {tA : Nat}
theorem jx_calli {S : Type} {post : Int32 → S → Prop} {w1 : S → va_W} (hP : va_P D vwCl ws H) (hD : va_D A ws) (hS : va_S A H0 H locs) (hA : ∀ q : Nat, H0.size ≤ q → A q) (hK : va_K D vwCl tys s) (isC isR : List Nat) (hC : isC.map (fun i => ws[i]?) = wc.map some) (hR : isR.map (fun i => ws[i]?) = wr.map some) (hnC : va_nd isC = true) (hn : va_nd isR = true) (hdis : ∀ i ∈ isR, i ∉ isC)
    (hr : va_P D vwCl wc H → va_D (fun _ => True) wc → (∀ q, va_A wc H.size q → A q) → va_Run p l e R s m args below meth c H locs cells slots 0 0 (F0 m pc ls st0) rest (jx_Qi D tys post w1 (va_A wc H.size) a) (va_A wc H.size))
    (kk : ∀ (r : Int32) (u : S) (H1 : Heap) (locs1 : List Loc), post r u → va_P D vwCl (wr ++ w1 u) H1 → va_D A (wr ++ w1 u) → va_S A H0 H1 locs1 → W p l e R s m args below meth c H1 locs1 cells slots Q (F0 m (pc + 3) ls (.int r :: rest))) : W p l e R s m args below meth c H locs cells slots Q (F0 m pc ls st0) := by
  have hFc := va_free (wc := wc) hD hS hA isC hC
  have hDc := hD.sub (ws' := wc) isC hnC hC
  have hPc : va_P D vwCl wc H := fun k q hk => by
    have h1 : (isC.map (fun i => ws[i]?))[k]? = some (some q) := by rw [hC, List.getElem?_map, hk]; rfl
    rw [List.getElem?_map] at h1
    cases hi : isC[k]? with
    | none => rw [hi] at h1; cases h1
    | some i => rw [hi] at h1; exact hP i q (Option.some.inj h1)
  refine va_calli (hr hPc (hDc.weaken (fun _ _ _ _ => trivial)) hFc) hS (fun q _ h => hFc q h) hFc (fun r u t H1 locs1 ht hvm hw hB hz1 hk1 hS1 => ?_)
  obtain ⟨hP1, hK1, hD1⟩ := hB
  rw [ht] at hP1
  obtain ⟨hP2, hD2⟩ := va_join (wr := wr) hP hD isC isR hC hR hn hdis hk1 hFc hP1 hD1
  exact kk r u H1 locs1 hw hP2 hD2 hS1
theorem jx_calll {S : Type} {post : Int64 → S → Prop} {w1 : S → va_W} (hP : va_P D vwCl ws H) (hD : va_D A ws) (hS : va_S A H0 H locs) (hA : ∀ q : Nat, H0.size ≤ q → A q) (hK : va_K D vwCl tys s) (isC isR : List Nat) (hC : isC.map (fun i => ws[i]?) = wc.map some) (hR : isR.map (fun i => ws[i]?) = wr.map some) (hnC : va_nd isC = true) (hn : va_nd isR = true) (hdis : ∀ i ∈ isR, i ∉ isC)
    (hr : va_P D vwCl wc H → va_D (fun _ => True) wc → (∀ q, va_A wc H.size q → A q) → va_Run p l e R s m args below meth c H locs cells slots 0 0 (F0 m pc ls st0) rest (jx_Ql D tys post w1 (va_A wc H.size) a) (va_A wc H.size))
    (kk : ∀ (r : Int64) (u : S) (H1 : Heap) (locs1 : List Loc), post r u → va_P D vwCl (wr ++ w1 u) H1 → va_D A (wr ++ w1 u) → va_S A H0 H1 locs1 → W p l e R s m args below meth c H1 locs1 cells slots Q (F0 m (pc + 3) ls (.long r :: rest))) : W p l e R s m args below meth c H locs cells slots Q (F0 m pc ls st0) := by
  have hFc := va_free (wc := wc) hD hS hA isC hC
  have hDc := hD.sub (ws' := wc) isC hnC hC
  have hPc : va_P D vwCl wc H := fun k q hk => by
    have h1 : (isC.map (fun i => ws[i]?))[k]? = some (some q) := by rw [hC, List.getElem?_map, hk]; rfl
    rw [List.getElem?_map] at h1
    cases hi : isC[k]? with
    | none => rw [hi] at h1; cases h1
    | some i => rw [hi] at h1; exact hP i q (Option.some.inj h1)
  refine va_calll (hr hPc (hDc.weaken (fun _ _ _ _ => trivial)) hFc) hS (fun q _ h => hFc q h) hFc (fun r u t H1 locs1 ht hvm hw hB hz1 hk1 hS1 => ?_)
  obtain ⟨hP1, hK1, hD1⟩ := hB
  rw [ht] at hP1
  obtain ⟨hP2, hD2⟩ := va_join (wr := wr) hP hD isC isR hC hR hn hdis hk1 hFc hP1 hD1
  exact kk r u H1 locs1 hw hP2 hD2 hS1
theorem jx_calld {S : Type} {post : UInt64 → S → Prop} {w1 : S → va_W} (hP : va_P D vwCl ws H) (hD : va_D A ws) (hS : va_S A H0 H locs) (hA : ∀ q : Nat, H0.size ≤ q → A q) (hK : va_K D vwCl tys s) (isC isR : List Nat) (hC : isC.map (fun i => ws[i]?) = wc.map some) (hR : isR.map (fun i => ws[i]?) = wr.map some) (hnC : va_nd isC = true) (hn : va_nd isR = true) (hdis : ∀ i ∈ isR, i ∉ isC)
    (hr : va_P D vwCl wc H → va_D (fun _ => True) wc → (∀ q, va_A wc H.size q → A q) → va_Run p l e R s m args below meth c H locs cells slots 0 0 (F0 m pc ls st0) rest (jx_Qd D tys post w1 (va_A wc H.size) a) (va_A wc H.size))
    (kk : ∀ (r : UInt64) (u : S) (H1 : Heap) (locs1 : List Loc), post r u → va_P D vwCl (wr ++ w1 u) H1 → va_D A (wr ++ w1 u) → va_S A H0 H1 locs1 → W p l e R s m args below meth c H1 locs1 cells slots Q (F0 m (pc + 3) ls (.double r :: rest))) : W p l e R s m args below meth c H locs cells slots Q (F0 m pc ls st0) := by
  have hFc := va_free (wc := wc) hD hS hA isC hC
  have hDc := hD.sub (ws' := wc) isC hnC hC
  have hPc : va_P D vwCl wc H := fun k q hk => by
    have h1 : (isC.map (fun i => ws[i]?))[k]? = some (some q) := by rw [hC, List.getElem?_map, hk]; rfl
    rw [List.getElem?_map] at h1
    cases hi : isC[k]? with
    | none => rw [hi] at h1; cases h1
    | some i => rw [hi] at h1; exact hP i q (Option.some.inj h1)
  refine va_calld (hr hPc (hDc.weaken (fun _ _ _ _ => trivial)) hFc) hS (fun q _ h => hFc q h) hFc (fun r u t H1 locs1 ht hvm hw hB hz1 hk1 hS1 => ?_)
  obtain ⟨hP1, hK1, hD1⟩ := hB
  rw [ht] at hP1
  obtain ⟨hP2, hD2⟩ := va_join (wr := wr) hP hD isC isR hC hR hn hdis hk1 hFc hP1 hD1
  exact kk r u H1 locs1 hw hP2 hD2 hS1
theorem jx_callv {S : Type} {post : S → Prop} {w1 : S → va_W} (hP : va_P D vwCl ws H) (hD : va_D A ws) (hS : va_S A H0 H locs) (hA : ∀ q : Nat, H0.size ≤ q → A q) (hK : va_K D vwCl tys s) (isC isR : List Nat) (hC : isC.map (fun i => ws[i]?) = wc.map some) (hR : isR.map (fun i => ws[i]?) = wr.map some) (hnC : va_nd isC = true) (hn : va_nd isR = true) (hdis : ∀ i ∈ isR, i ∉ isC)
    (hr : va_P D vwCl wc H → va_D (fun _ => True) wc → (∀ q, va_A wc H.size q → A q) → va_Run p l e R s m args below meth c H locs cells slots 0 0 (F0 m pc ls st0) rest (jx_Qv D tys post w1 (va_A wc H.size) a) (va_A wc H.size))
    (kk : ∀ (u : S) (H1 : Heap) (locs1 : List Loc), post u → va_P D vwCl (wr ++ w1 u) H1 → va_D A (wr ++ w1 u) → va_S A H0 H1 locs1 → W p l e R s m args below meth c H1 locs1 cells slots Q (F0 m (pc + 3) ls rest)) : W p l e R s m args below meth c H locs cells slots Q (F0 m pc ls st0) := by
  have hFc := va_free (wc := wc) hD hS hA isC hC
  have hDc := hD.sub (ws' := wc) isC hnC hC
  have hPc : va_P D vwCl wc H := fun k q hk => by
    have h1 : (isC.map (fun i => ws[i]?))[k]? = some (some q) := by rw [hC, List.getElem?_map, hk]; rfl
    rw [List.getElem?_map] at h1
    cases hi : isC[k]? with
    | none => rw [hi] at h1; cases h1
    | some i => rw [hi] at h1; exact hP i q (Option.some.inj h1)
  refine va_callv (hr hPc (hDc.weaken (fun _ _ _ _ => trivial)) hFc) hS (fun q _ h => hFc q h) hFc (fun u t H1 locs1 ht hvm hw hB hz1 hk1 hS1 => ?_)
  obtain ⟨hP1, hK1, hD1⟩ := hB
  rw [ht] at hP1
  obtain ⟨hP2, hD2⟩ := va_join (wr := wr) hP hD isC isR hC hR hn hdis hk1 hFc hP1 hD1
  exact kk u H1 locs1 hw hP2 hD2 hS1
theorem jx_pre {av : List Value} (hP : va_P D vwCl wc H) (hD : va_D (fun _ => True) wc) (hK : va_K D vwCl tys s) (hX : jx_X tA A s H0) (hS : va_S A H0 H locs) (hF : ∀ q, va_A wc H.size q → A q) : FrameBlind (jx_Pc D tys tA av wc H.size) ∧ ∀ U : State, U.heap = H → s.WarmedH U.vm → jx_Pc D tys tA av wc H.size av.toArray U := by
  refine ⟨fun a U g mk q => ?_, fun U hU hW => ⟨rfl, by rw [hU], by rw [hU]; exact hP, va_K.moved hW.alike hK, hD, ?_⟩⟩
  · obtain ⟨q0, q1, qP, qK, qD, qX⟩ := q
    exact ⟨q0, q1, qP, va_K.moved (u := U) (U := U.calling g mk a) (Vm.Alike.refl U.vm) qK, qD, qX.calls⟩
  · rw [hU]
    exact hX.down hW hS hF
theorem jx_runV {Ts wsY ws' : List Cond} {own C : String} {index maxL nL n ci q0 : Nat} {y : MethodName} {bytes : ByteArray} {ret : Option FieldType} {rm : Room} {Qc : (Nat → Prop) → Array Value → State → Outcome → State → Prop} {b : Addr} {As : List Value} {q : vw_C} {fs : List Value}
    (hx : p.tables.exec = Jvm.exec) (hb : c.code = cc) (hml : c.maxLocals = nL) (hown : s.vm.findClass own = some m.cls) (hts : ∀ w ∈ Ts, w.before args s = true) (hK : va_K D vwCl tys s) (hX : jx_X tA A s H0) (hS : va_S A H0 H locs) (hls : ls.size = nL)
    (hM : jx_M l y wsY rm D tys tA (.ref b :: As) wc Qc) (hT : GoodIn Ts (wsV own index C y wsY)) (hw : wsY = Cond.code y bytes maxL ret :: ws') (hrc : rm.cells = 0) (hrs : rm.slots = 0)
    (hd : y.cls = C ∧ y.cls ≠ "java/lang/invoke/MethodHandle" ∧ y.cls ≠ "java/lang/invoke/VarHandle" ∧ (parseMethodDescriptor y.desc).map (fun d => d.parameters.length) = some n) (hRm : rm.frames + 1 ≤ R.frames ∧ 8 + (maxL + 11) + rm.locals ≤ R.locals)
    (hc : vwCl[ci]? = some q) (hqC : q.1 = C) (he : wc[q0]? = some (b, .inr (ci, fs))) (hn : As.length = n) (hst : st0 = As.reverse ++ .ref b :: rest) (hW : (rest.map fun v => v.category).sum ≤ 8) (hdg : decode cc pc = .ok (.invokevirtual index, 3)) (hf : cells ≤ R.cells ∧ slots ≤ R.slots)
    (hPc : va_P D vwCl wc H) (hDc : va_D (fun _ => True) wc) (hF : ∀ q, va_A wc H.size q → A q) :
    va_Run p l e R s m args below meth c H locs cells slots 0 0 (F0 m pc ls st0) rest (Qc (va_A wc H.size) (Value.ref b :: As).toArray) (va_A wc H.size) := by
  have hp := jx_pre (av := .ref b :: As) hPc hDc hK hX hS hF
  subst hqC
  exact va_runV (As := As) (rest := rest) ⟨hx, hb, hml, hown, hts⟩ (hM H.size) (cwV n hts hT hw hrc hrs hd hRm) ⟨hp.1, va_recv hK hPc hc he, hp.2⟩ rfl hn hls hst (lv_room hW) hdg hf
theorem jx_runS {Ts wsY ws' : List Cond} {own : String} {index maxL nL n : Nat} {y : MethodName} {bytes : ByteArray} {ret : Option FieldType} {rm : Room} {Qc : (Nat → Prop) → Array Value → State → Outcome → State → Prop} {As : List Value}
    (hx : p.tables.exec = Jvm.exec) (hb : c.code = cc) (hml : c.maxLocals = nL) (hown : s.vm.findClass own = some m.cls) (hts : ∀ w ∈ Ts, w.before args s = true) (hK : va_K D vwCl tys s) (hX : jx_X tA A s H0) (hS : va_S A H0 H locs) (hls : ls.size = nL)
    (hM : jx_M l y wsY rm D tys tA As wc Qc) (hT : GoodIn Ts (va_wsS own index y wsY)) (hw : wsY = Cond.code y bytes maxL ret :: ws') (hrc : rm.cells = 0) (hrs : rm.slots = 0)
    (hd : y.cls ≠ "java/lang/invoke/MethodHandle" ∧ y.cls ≠ "java/lang/invoke/VarHandle" ∧ (parseMethodDescriptor y.desc).map (fun d => d.parameters.length) = some n) (hRm : rm.frames + 1 ≤ R.frames ∧ 8 + (maxL + 11) + rm.locals ≤ R.locals)
    (hn : As.length = n) (hst : st0 = As.reverse ++ rest) (hW : (rest.map fun v => v.category).sum ≤ 8) (hdg : decode cc pc = .ok (.invokestatic index, 3)) (hf : cells ≤ R.cells ∧ slots ≤ R.slots)
    (hPc : va_P D vwCl wc H) (hDc : va_D (fun _ => True) wc) (hF : ∀ q, va_A wc H.size q → A q) :
    va_Run p l e R s m args below meth c H locs cells slots 0 0 (F0 m pc ls st0) rest (Qc (va_A wc H.size) As.toArray) (va_A wc H.size) := by
  have hp := jx_pre (av := As) hPc hDc hK hX hS hF
  exact va_runS (As := As) (rest := rest) ⟨hx, hb, hml, hown, hts⟩ (hM H.size) (va_cwS n hts hT hw hrc hrs hd hRm) hp rfl hn hls hst (lv_room hW) hdg hf
/-! a value that comes from several roads -/
theorem jx_joini {J : Nat} {v : Int32} (k : W p l e R s m args below meth c H locs cells slots Q (F0 m J ls (.int v :: rest)) → W p l e R s m args below meth c H locs cells slots Q (F0 m pc ls st0)) (h : W p l e R s m args below meth c H locs cells slots Q (F0 m J ls (.int v :: rest))) : W p l e R s m args below meth c H locs cells slots Q (F0 m pc ls st0) := k h
theorem jx_joinl {J : Nat} {v : Int64} (k : W p l e R s m args below meth c H locs cells slots Q (F0 m J ls (.long v :: rest)) → W p l e R s m args below meth c H locs cells slots Q (F0 m pc ls st0)) (h : W p l e R s m args below meth c H locs cells slots Q (F0 m J ls (.long v :: rest))) : W p l e R s m args below meth c H locs cells slots Q (F0 m pc ls st0) := k h
/-- roads that come together with nothing changed; P is what all of them know -/
theorem jx_cut {J : Nat} {P : Prop} (k : (P → W p l e R s m args below meth c H locs cells slots Q (F0 m J ls rest)) → W p l e R s m args below meth c H locs cells slots Q (F0 m pc ls st0)) (h : P → W p l e R s m args below meth c H locs cells slots Q (F0 m J ls rest)) : W p l e R s m args below meth c H locs cells slots Q (F0 m pc ls st0) := k h
/-- roads that come together with the heap and the locals changed: Inv says how -/
theorem jx_meet {σ : Type} {J : Nat} (Inv : σ → Heap → List Loc → Array Slot → Prop) (k : (∀ (x : σ) (H : Heap) (locs : List Loc) (ls : Array Slot), Inv x H locs ls → W p l e R s m args below meth c H locs cells slots Q (F0 m J ls rest)) → W p l e R s m args below meth c H locs cells slots Q (F0 m pc ls st0)) (h : ∀ (x : σ) (H : Heap) (locs : List Loc) (ls : Array Slot), Inv x H locs ls → W p l e R s m args below meth c H locs cells slots Q (F0 m J ls rest)) : W p l e R s m args below meth c H locs cells slots Q (F0 m pc ls st0) := k h
theorem jx_loop_n {σ : Type} {head : Nat} {Inv : σ → Heap → List Loc → Array Slot → Prop} {μ : σ → Nat}
    (step : ∀ (x : σ) (H : Heap) (locs : List Loc) (ls : Array Slot), Inv x H locs ls → (∀ (x' : σ) (H' : Heap) (locs' : List Loc) (ls' : Array Slot), Inv x' H' locs' ls' → μ x' < μ x → W p l e R s m args below meth c H' locs' cells slots Q (F0 m head ls' rest)) → W p l e R s m args below meth c H locs cells slots Q (F0 m head ls rest)) :
    ∀ (n : Nat) (x : σ) (H : Heap) (locs : List Loc) (ls : Array Slot), μ x < n → Inv x H locs ls → W p l e R s m args below meth c H locs cells slots Q (F0 m head ls rest) := by
  intro n
  induction n with
  | zero => intro x H locs ls h; exact absurd h (Nat.not_lt_zero _)
  | succ n ih =>
    intro x H locs ls h hI
    exact step x H locs ls hI (fun x' H' locs' ls' hI' hlt => ih x' H' locs' ls' (by omega) hI')
/-- a loop: the invariant, a measure that falls -/
theorem jx_loop {σ : Type} (Inv : σ → Heap → List Loc → Array Slot → Prop) (μ : σ → Nat) (x0 : σ) (h0 : Inv x0 H locs ls)
    (step : ∀ (x : σ) (H : Heap) (locs : List Loc) (ls : Array Slot), Inv x H locs ls → (∀ (x' : σ) (H' : Heap) (locs' : List Loc) (ls' : Array Slot), Inv x' H' locs' ls' → μ x' < μ x → W p l e R s m args below meth c H' locs' cells slots Q (F0 m pc ls' rest)) → W p l e R s m args below meth c H locs cells slots Q (F0 m pc ls rest)) :
    W p l e R s m args below meth c H locs cells slots Q (F0 m pc ls rest) := jx_loop_n (μ := μ) step (μ x0 + 1) x0 H locs ls (Nat.lt_succ_self _) h0
/-! fields and arrays: the world behind is named -/
theorem jx_put (hexec : p.tables.exec = Jvm.exec) (hb : c.code = cc) {own ref C : String} {T : u_T} {N ci index b : Nat} {Ts : List Cond} {w2 : va_W} (hts : ∀ w ∈ Ts, w.before args s = true) (hin : ∀ w ∈ u_ws C T N, w ∈ Ts) (ty0 : Nat → FieldType) (hty : ∀ k, k < N → parseFieldDescriptor (T k).2.2.1 = some (ty0 k)) (hnm : ∀ a, a < N → ∀ b, b < N → a ≠ b → (T a).2.1 ≠ (T b).2.1) (hown : s.vm.findClass own = some m.cls) (hK : va_K D vwCl tys s) (hP : va_P D vwCl ws H) (hD : va_D A ws) (hS0 : va_S A H0 H locs) (q0 : Nat) {fs : List Value} (he : ws[q0]? = some (b, .inr (ci, fs))) (hc : vwCl[ci]? = some (C, T, N)) (k : Nat) (hk : k < N) (hlink : (Cond.fieldLink own index ref (T k).2.1 (T k).2.2.1).before args s = true) (hsame : (T k).1 = ref) (hfin : (T k).2.2.2 = false) {v : Value} (hn : narrow (ty0 k) v = v) (hfit : fits (ty0 k) v = true) (hl : k < fs.length) (hdg : decode cc pc = .ok (.putfield index, 3)) (hset : ws.set q0 (b, .inr (ci, fs.set k v)) = w2) (kk : ∀ (H1 : Heap) (locs1 : List Loc), va_P D vwCl w2 H1 → va_D A w2 → va_S A H0 H1 locs1 → W p l e R s m args below meth c H1 locs1 cells slots Q (F0 m (pc + 3) ls rest)) : W p l e R s m args below meth c H locs cells slots Q (F0 m pc ls (v :: .ref b :: rest)) := by
  subst hset
  exact va_put hexec hb hts hin ty0 hty hnm hown hK hP hD hS0 q0 he hc k hk hlink (fun x h => by rw [← hsame]; exact h) hfin (hty k hk) hn hfit hl hdg kk
theorem jx_putN (hexec : p.tables.exec = Jvm.exec) (hb : c.code = cc) {own ref C host : String} {T : u_T} {N ci index b : Nat} {Ts : List Cond} {w2 : va_W} (hts : ∀ w ∈ Ts, w.before args s = true) (hin : ∀ w ∈ u_ws C T N, w ∈ Ts) (ty0 : Nat → FieldType) (hty : ∀ k, k < N → parseFieldDescriptor (T k).2.2.1 = some (ty0 k)) (hnm : ∀ a, a < N → ∀ b, b < N → a ≠ b → (T a).2.1 ≠ (T b).2.1) (hown : s.vm.findClass own = some m.cls) (hK : va_K D vwCl tys s) (hP : va_P D vwCl ws H) (hD : va_D A ws) (hS0 : va_S A H0 H locs) (q0 : Nat) {fs : List Value} (he : ws[q0]? = some (b, .inr (ci, fs))) (hc : vwCl[ci]? = some (C, T, N)) (k : Nat) (hk : k < N) (hX : jx_X tA A s H0) (hlink : (own, index, ref, (T k).2.1, (T k).2.2.1, host) ∈ jx_nest) (hsame : (T k).1 = ref) (hfin : (T k).2.2.2 = false) {v : Value} (hn : narrow (ty0 k) v = v) (hfit : fits (ty0 k) v = true) (hl : k < fs.length) (hdg : decode cc pc = .ok (.putfield index, 3)) (hset : ws.set q0 (b, .inr (ci, fs.set k v)) = w2) (kk : ∀ (H1 : Heap) (locs1 : List Loc), va_P D vwCl w2 H1 → va_D A w2 → va_S A H0 H1 locs1 → W p l e R s m args below meth c H1 locs1 cells slots Q (F0 m (pc + 3) ls rest)) : W p l e R s m args below meth c H locs cells slots Q (F0 m pc ls (v :: .ref b :: rest)) := by
  subst hset
  exact va_putN hexec hb hts hin ty0 hty hnm hown hK hP hD hS0 q0 he hc k hk (va_Nw.use rfl (hX.1 _ hlink)) (fun x h => by rw [← hsame]; exact h) hfin (hty k hk) hn hfit hl hdg kk
theorem jx_get (hexec : p.tables.exec = Jvm.exec) (hb : c.code = cc) {own ref C : String} {T : u_T} {N ci index b : Nat} {Ts : List Cond} (hts : ∀ w ∈ Ts, w.before args s = true) (hin : ∀ w ∈ u_ws C T N, w ∈ Ts) (hown : s.vm.findClass own = some m.cls) (hK : va_K D vwCl tys s) (hP : va_P D vwCl ws H) (q0 : Nat) {fs : List Value} (he : ws[q0]? = some (b, .inr (ci, fs))) (hc : vwCl[ci]? = some (C, T, N)) (k : Nat) (hk : k < N) (hlink : (Cond.fieldLink own index ref (T k).2.1 (T k).2.2.1).before args s = true) (hsame : (T k).1 = ref) {v : Value} (hv : fs[k]? = some v) (hdg : decode cc pc = .ok (.getfield index, 3)) (kk : W p l e R s m args below meth c H locs cells slots Q (F0 m (pc + 3) ls (v :: rest))) : W p l e R s m args below meth c H locs cells slots Q (F0 m pc ls (.ref b :: rest)) :=
  va_get hexec hb hts hin hown hK hP q0 he hc k hk hlink (fun x h => by rw [← hsame]; exact h) hv hdg kk
theorem jx_getN (hexec : p.tables.exec = Jvm.exec) (hb : c.code = cc) {own ref C host : String} {T : u_T} {N ci index b : Nat} {Ts : List Cond} (hts : ∀ w ∈ Ts, w.before args s = true) (hin : ∀ w ∈ u_ws C T N, w ∈ Ts) (hown : s.vm.findClass own = some m.cls) (hK : va_K D vwCl tys s) (hP : va_P D vwCl ws H) (q0 : Nat) {fs : List Value} (he : ws[q0]? = some (b, .inr (ci, fs))) (hc : vwCl[ci]? = some (C, T, N)) (k : Nat) (hk : k < N) (hX : jx_X tA A s H0) (hlink : (own, index, ref, (T k).2.1, (T k).2.2.1, host) ∈ jx_nest) (hsame : (T k).1 = ref) {v : Value} (hv : fs[k]? = some v) (hdg : decode cc pc = .ok (.getfield index, 3)) (kk : W p l e R s m args below meth c H locs cells slots Q (F0 m (pc + 3) ls (v :: rest))) : W p l e R s m args below meth c H locs cells slots Q (F0 m pc ls (.ref b :: rest)) :=
  va_getN hexec hb hts hin hown hK hP q0 he hc k hk (va_Nw.use rfl (hX.1 _ hlink)) (fun x h => by rw [← hsame]; exact h) hv hdg kk
theorem jx_iast (hexec : p.tables.exec = Jvm.exec) (hb : c.code = cc) (hK : va_K D vwCl tys s) (hP : va_P D vwCl ws H) (hD : va_D A ws) (hS : va_S A H0 H locs) (q0 t0 : Nat) {b : Nat} {cA : ClassId} {n : Nat} {f : Nat → Int32} {w2 : va_W} (ha : ws[q0]? = some (b, .inl (cA, n, .inl f))) (ht : tys[t0]? = some (cA, .int)) {i x : Int32} (hin : vp_in i n) (hdg : decode cc pc = .ok (.iastore, 1)) (hset : ws.set q0 (b, .inl (cA, n, .inl (upd f i.toNatClampNeg x))) = w2) (kk : ∀ (H1 : Heap) (locs1 : List Loc), va_P D vwCl w2 H1 → va_D A w2 → va_S A H0 H1 locs1 → W p l e R s m args below meth c H1 locs1 cells slots Q (F0 m (pc + 1) ls rest)) : W p l e R s m args below meth c H locs cells slots Q (F0 m pc ls (.int x :: .int i :: .ref b :: rest)) := by
  subst hset
  exact va_iast hexec hb hK hP hD hS q0 t0 ha ht hin hdg kk
theorem jx_zast (hexec : p.tables.exec = Jvm.exec) (hb : c.code = cc) (hK : va_K D vwCl tys s) (hP : va_P D vwCl ws H) (hD : va_D A ws) (hS : va_S A H0 H locs) (q0 t0 : Nat) {b : Nat} {cA : ClassId} {n : Nat} {f : Nat → Int32} {w2 : va_W} (ha : ws[q0]? = some (b, .inl (cA, n, .inl f))) (ht : tys[t0]? = some (cA, .boolean)) {i x : Int32} (hin : vp_in i n) (hz : x = 0 ∨ x = 1) (hdg : decode cc pc = .ok (.bastore, 1)) (hset : ws.set q0 (b, .inl (cA, n, .inl (upd f i.toNatClampNeg x))) = w2) (kk : ∀ (H1 : Heap) (locs1 : List Loc), va_P D vwCl w2 H1 → va_D A w2 → va_S A H0 H1 locs1 → W p l e R s m args below meth c H1 locs1 cells slots Q (F0 m (pc + 1) ls rest)) : W p l e R s m args below meth c H locs cells slots Q (F0 m pc ls (.int x :: .int i :: .ref b :: rest)) := by
  subst hset
  have hn : vp_nar .boolean x = x := by rcases hz with rfl | rfl <;> rfl
  exact va_zast hexec hb hK hP hD hS q0 t0 ha ht hin hdg (by rw [hn]; exact kk)
theorem jx_last (hexec : p.tables.exec = Jvm.exec) (hb : c.code = cc) (hK : va_K D vwCl tys s) (hP : va_P D vwCl ws H) (hD : va_D A ws) (hS : va_S A H0 H locs) (q0 t0 : Nat) {b : Nat} {cA : ClassId} {n : Nat} {f : Nat → Int64} {w2 : va_W} (ha : ws[q0]? = some (b, .inl (cA, n, .inr (.inl f)))) (ht : tys[t0]? = some (cA, .long)) {i : Int32} {x : Int64} (hin : vp_in i n) (hdg : decode cc pc = .ok (.lastore, 1)) (hset : ws.set q0 (b, .inl (cA, n, .inr (.inl (vp_updL f i.toNatClampNeg x)))) = w2) (kk : ∀ (H1 : Heap) (locs1 : List Loc), va_P D vwCl w2 H1 → va_D A w2 → va_S A H0 H1 locs1 → W p l e R s m args below meth c H1 locs1 cells slots Q (F0 m (pc + 1) ls rest)) : W p l e R s m args below meth c H locs cells slots Q (F0 m pc ls (.long x :: .int i :: .ref b :: rest)) := by
  subst hset
  exact va_last hexec hb hK hP hD hS q0 t0 ha ht hin hdg kk
/-! two longs compared, and the branch on it -/
theorem jx_cmp_eq (x y : Int64) : lg_cmp x y = 0 ↔ x = y := by
  unfold lg_cmp
  by_cases h1 : y < x
  · simp only [h1, if_true]; exact ⟨fun h => absurd h (by decide), fun h => by subst h; exact absurd h1 (by simp)⟩
  · by_cases h2 : x = y
    · simp [h2]
    · simp [h1, h2]
theorem jx_cmp_gt (x y : Int64) : 0 < lg_cmp x y ↔ y < x := by
  unfold lg_cmp
  by_cases h1 : y < x
  · simp [h1]
  · by_cases h2 : x = y
    · simp [h2]
    · simp [h1, h2]
theorem jx_cmp_lt (x y : Int64) : lg_cmp x y < 0 ↔ x < y := by
  unfold lg_cmp
  by_cases h1 : y < x
  · have h3 : ¬ x < y := by rw [Int64.lt_iff_toInt_lt] at *; omega
    simp [h1, h3]
  · by_cases h2 : x = y
    · subst h2
      simp [h1]
    · have h3 : x < y := by
        rw [Int64.lt_iff_toInt_lt] at *
        have : x.toInt ≠ y.toInt := fun h => h2 (Int64.toInt_inj.mp h)
        omega
      simp [h1, h2, h3]
theorem jx_cmp_ge (x y : Int64) : 0 ≤ lg_cmp x y ↔ y ≤ x := by
  rw [← Int32.not_lt, jx_cmp_lt, Int64.not_lt]
theorem jx_cmp_le (x y : Int64) : lg_cmp x y ≤ 0 ↔ x ≤ y := by
  rw [← Int32.not_lt, jx_cmp_gt, Int64.not_lt]
theorem jx_l_eq (hexec : p.tables.exec = Jvm.exec) (hb : c.code = cc) {x y : Int64} {off : Int} {tgt : Nat} (hdc : decode cc pc = .ok (.lcmp, 1)) (hdg : decode cc (pc + 1) = .ok (.ifCond .eq off, 3)) (ht : ((pc + 1 : Nat) : Int) + off = (tgt : Int)) (kt : x = y → W p l e R s m args below meth c H locs cells slots Q (F0 m tgt ls rest)) (kf : ¬ x = y → W p l e R s m args below meth c H locs cells slots Q (F0 m (pc + 4) ls rest)) : W p l e R s m args below meth c H locs cells slots Q (F0 m pc ls (.long y :: .long x :: rest)) :=
  W.lcmp hexec hb hdc (lv_if_eq hexec hb hdg ht (fun h => kt ((jx_cmp_eq x y).mp h)) (fun h => kf (fun z => h ((jx_cmp_eq x y).mpr z))))
theorem jx_l_ne (hexec : p.tables.exec = Jvm.exec) (hb : c.code = cc) {x y : Int64} {off : Int} {tgt : Nat} (hdc : decode cc pc = .ok (.lcmp, 1)) (hdg : decode cc (pc + 1) = .ok (.ifCond .ne off, 3)) (ht : ((pc + 1 : Nat) : Int) + off = (tgt : Int)) (kt : ¬ x = y → W p l e R s m args below meth c H locs cells slots Q (F0 m tgt ls rest)) (kf : x = y → W p l e R s m args below meth c H locs cells slots Q (F0 m (pc + 4) ls rest)) : W p l e R s m args below meth c H locs cells slots Q (F0 m pc ls (.long y :: .long x :: rest)) :=
  W.lcmp hexec hb hdc (lv_if_ne hexec hb hdg ht (fun h => kt (fun z => h ((jx_cmp_eq x y).mpr z))) (fun h => kf ((jx_cmp_eq x y).mp h)))
theorem jx_l_lt (hexec : p.tables.exec = Jvm.exec) (hb : c.code = cc) {x y : Int64} {off : Int} {tgt : Nat} (hdc : decode cc pc = .ok (.lcmp, 1)) (hdg : decode cc (pc + 1) = .ok (.ifCond .lt off, 3)) (ht : ((pc + 1 : Nat) : Int) + off = (tgt : Int)) (kt : x < y → W p l e R s m args below meth c H locs cells slots Q (F0 m tgt ls rest)) (kf : ¬ x < y → W p l e R s m args below meth c H locs cells slots Q (F0 m (pc + 4) ls rest)) : W p l e R s m args below meth c H locs cells slots Q (F0 m pc ls (.long y :: .long x :: rest)) :=
  W.lcmp hexec hb hdc (lv_if_lt hexec hb hdg ht (fun h => kt ((jx_cmp_lt x y).mp h)) (fun h => kf (fun z => h ((jx_cmp_lt x y).mpr z))))
theorem jx_l_ge (hexec : p.tables.exec = Jvm.exec) (hb : c.code = cc) {x y : Int64} {off : Int} {tgt : Nat} (hdc : decode cc pc = .ok (.lcmp, 1)) (hdg : decode cc (pc + 1) = .ok (.ifCond .ge off, 3)) (ht : ((pc + 1 : Nat) : Int) + off = (tgt : Int)) (kt : y ≤ x → W p l e R s m args below meth c H locs cells slots Q (F0 m tgt ls rest)) (kf : ¬ y ≤ x → W p l e R s m args below meth c H locs cells slots Q (F0 m (pc + 4) ls rest)) : W p l e R s m args below meth c H locs cells slots Q (F0 m pc ls (.long y :: .long x :: rest)) :=
  W.lcmp hexec hb hdc (lv_if_ge hexec hb hdg ht (fun h => kt ((jx_cmp_ge x y).mp h)) (fun h => kf (fun z => h ((jx_cmp_ge x y).mpr z))))
theorem jx_l_gt (hexec : p.tables.exec = Jvm.exec) (hb : c.code = cc) {x y : Int64} {off : Int} {tgt : Nat} (hdc : decode cc pc = .ok (.lcmp, 1)) (hdg : decode cc (pc + 1) = .ok (.ifCond .gt off, 3)) (ht : ((pc + 1 : Nat) : Int) + off = (tgt : Int)) (kt : y < x → W p l e R s m args below meth c H locs cells slots Q (F0 m tgt ls rest)) (kf : ¬ y < x → W p l e R s m args below meth c H locs cells slots Q (F0 m (pc + 4) ls rest)) : W p l e R s m args below meth c H locs cells slots Q (F0 m pc ls (.long y :: .long x :: rest)) :=
  W.lcmp hexec hb hdc (lv_if_gt hexec hb hdg ht (fun h => kt ((jx_cmp_gt x y).mp h)) (fun h => kf (fun z => h ((jx_cmp_gt x y).mpr z))))
theorem jx_l_le (hexec : p.tables.exec = Jvm.exec) (hb : c.code = cc) {x y : Int64} {off : Int} {tgt : Nat} (hdc : decode cc pc = .ok (.lcmp, 1)) (hdg : decode cc (pc + 1) = .ok (.ifCond .le off, 3)) (ht : ((pc + 1 : Nat) : Int) + off = (tgt : Int)) (kt : x ≤ y → W p l e R s m args below meth c H locs cells slots Q (F0 m tgt ls rest)) (kf : ¬ x ≤ y → W p l e R s m args below meth c H locs cells slots Q (F0 m (pc + 4) ls rest)) : W p l e R s m args below meth c H locs cells slots Q (F0 m pc ls (.long y :: .long x :: rest)) :=
  W.lcmp hexec hb hdc (lv_if_le hexec hb hdg ht (fun h => kt ((jx_cmp_le x y).mp h)) (fun h => kf (fun z => h ((jx_cmp_le x y).mpr z))))
end JXR
end
section
/-! ===== methods that write nothing: the heap behind them is the heap ahead of them ===== -/
def jx_Ms (l : Launch) (y : MethodName) (ws : List Cond) (rm : Room) (D : va_G) (tys : List (ClassId × FieldType)) (tA : Nat) (av : List Value) (w0 : va_W) (Qs : Array Value → State → Outcome → State → Prop) : Prop :=
  ∀ sz : Nat, Met l y ws rm (jx_Pc D tys tA av w0 sz) Qs 0 0 (fun _ => False)
theorem jx_ofs {l : Launch} {y : MethodName} {ws ws' : List Cond} {rm : Room} {D : va_G} {tys : List (ClassId × FieldType)} {tA : Nat} {av : List Value} {w0 : va_W} {Qs : Array Value → State → Outcome → State → Prop} {cc : ByteArray} {maxL : Nat} {ret : Option FieldType}
    (hy : plainFor y = true) (hw : ws = Cond.code y cc maxL ret :: ws') (hent : (lg_sl av).length ≤ maxL)
    (body : ∀ (p : Program) (e : Env) (s : State) (m : MethodId) (below : List Frame) (meth : Method) (c : Code) (A : Nat → Prop) (ls : Array Slot), p.tables.exec = Jvm.exec → c.code = cc → meth.sig.returnType = ret → meth.locks = false → c.maxLocals = maxL → s.vm.findClass y.cls = some m.cls → (∀ w ∈ ws, w.before av.toArray s = true) → va_K D vwCl tys s → va_P D vwCl w0 s.heap → va_D A w0 → (∀ q : Nat, s.heap.size ≤ q → A q) → va_S A s.heap s.heap [] → jx_X tA A s s.heap → lv_has ls maxL (lv_args 0 av) →
      W p l e (headSpec ws rm).room s m av.toArray below meth c s.heap [] 0 0 (MQ below Qs av.toArray s 0 0 (fun _ => False)) (F0 m 0 ls [])) : jx_Ms l y ws rm D tys tA av w0 Qs := by
  intro sz
  refine va_MetF (cc := cc) (maxL := maxL) (ret := ret) hy hw ?_
  intro p e s m args below meth c s₁ B hml hv
  obtain ⟨rfl, hsz, hP, hK, hD0, hX⟩ := hv
  subst hsz
  have hl := lv_entry av (n := maxL) hent
  rw [lg_entry_eq]
  exact body p e s m below meth c _ _ B.exec B.bytes B.returns B.notSynchronized hml (findClass_of_methodNamed B.named) (atoms_spec (ws := ws) B.pre) hK hP (hD0.self (sz := s.heap.size)) (fun q h => Or.inr h) va_S.rf hX hl
section JXS
variable {p : Program} {l : Launch} {e : Env} {R : Room} {s : State} {m : MethodId} {args : Array Value} {below : List Frame} {meth : Method} {c : Code} {H : Heap} {locs : List Loc} {cells slots : Nat} {Q : State → Prop}
variable {D : va_G} {tys : List (ClassId × FieldType)} {A : Nat → Prop} {cc : ByteArray} {pc : Nat} {ls : Array Slot} {w : va_W}
theorem jx_siret {post : Int32 → Prop} {v : Int32} (hx : p.tables.exec = Jvm.exec) (hb : c.code = cc) (hr : meth.sig.returnType = some .int) (hlocks : meth.locks = false) (hpost : post v) (hdg : decode cc pc = .ok (.ireturn, 1)) :
    W p l e R s m args below meth c s.heap [] 0 0 (MQ below (vp_Si post) args s 0 0 (fun _ => False)) (F0 m pc ls [.int v]) :=
  W.iret hx hb hr (fun t ht hW => ⟨v, rfl, hpost, ht⟩) (fun _ h => nomatch h) hdg hlocks
theorem jx_szret {post : Int32 → Prop} {v : Int32} (hx : p.tables.exec = Jvm.exec) (hb : c.code = cc) (hr : meth.sig.returnType = some .boolean) (hlocks : meth.locks = false) (hpost : post v) (hz : v = 0 ∨ v = 1) (hdg : decode cc pc = .ok (.ireturn, 1)) :
    W p l e R s m args below meth c s.heap [] 0 0 (MQ below (vp_Si post) args s 0 0 (fun _ => False)) (F0 m pc ls [.int v]) :=
  W.zret (ty := .boolean) hx hb hr (by rcases hz with rfl | rfl <;> rfl) (fun t ht hW => ⟨v, rfl, hpost, ht⟩) (fun _ h => nomatch h) hdg hlocks
theorem jx_slret {post : Int64 → Prop} {v : Int64} (hx : p.tables.exec = Jvm.exec) (hb : c.code = cc) (hr : meth.sig.returnType = some .long) (hlocks : meth.locks = false) (hpost : post v) (hdg : decode cc pc = .ok (.lreturn, 1)) :
    W p l e R s m args below meth c s.heap [] 0 0 (MQ below (vp_Sl post) args s 0 0 (fun _ => False)) (F0 m pc ls [.long v]) :=
  W.lret hx hb hr (fun t ht hW => ⟨v, rfl, hpost, ht⟩) (fun _ h => nomatch h) hdg hlocks
theorem jx_sfret {post : UInt32 → Prop} {v : UInt32} (hx : p.tables.exec = Jvm.exec) (hb : c.code = cc) (hr : meth.sig.returnType = some .float) (hlocks : meth.locks = false) (hpost : post v) (hdg : decode cc pc = .ok (.freturn, 1)) :
    W p l e R s m args below meth c s.heap [] 0 0 (MQ below (vp_Sf post) args s 0 0 (fun _ => False)) (F0 m pc ls [.float v]) :=
  W.fret hx hb hr (fun t ht hW => ⟨v, rfl, hpost, ht⟩) (fun _ h => nomatch h) hdg
theorem jx_sdret {post : UInt64 → Prop} {v : UInt64} (hx : p.tables.exec = Jvm.exec) (hb : c.code = cc) (hr : meth.sig.returnType = some .double) (hlocks : meth.locks = false) (hpost : post v) (hdg : decode cc pc = .ok (.dreturn, 1)) :
    W p l e R s m args below meth c s.heap [] 0 0 (MQ below (vp_Sd post) args s 0 0 (fun _ => False)) (F0 m pc ls [.double v]) :=
  W.dret hx hb hr (fun t ht hW => ⟨v, rfl, hpost, ht⟩) (fun _ h => nomatch h) hdg
variable {H0 : Heap} {ws wc : va_W} {rest st0 : List Value} {a : Array Value} {tA : Nat}
theorem jx_cut1 (hP : va_P D vwCl ws H) (hD : va_D A ws) (hS : va_S A H0 H locs) (hA : ∀ q : Nat, H0.size ≤ q → A q) (isC : List Nat) (hC : isC.map (fun i => ws[i]?) = wc.map some) (hnC : va_nd isC = true) : va_P D vwCl wc H ∧ va_D (fun _ => True) wc ∧ ∀ q, va_A wc H.size q → A q := by
  have hDc := hD.sub (ws' := wc) isC hnC hC
  refine ⟨fun k q hk => ?_, hDc.weaken (fun _ _ _ _ => trivial), va_free (wc := wc) hD hS hA isC hC⟩
  have h1 : (isC.map (fun i => ws[i]?))[k]? = some (some q) := by rw [hC, List.getElem?_map, hk]; rfl
  rw [List.getElem?_map] at h1
  cases hi : isC[k]? with
  | none => rw [hi] at h1; cases h1
  | some i => rw [hi] at h1; exact hP i q (Option.some.inj h1)
theorem jx_L0 {L : List Loc} (h : ∀ q ∈ L, (fun _ : Addr => False) q.base) : L = [] := by
  cases L with
  | nil => rfl
  | cons q qs => exact (h q List.mem_cons_self).elim
theorem jx_pcalli {post : Int32 → Prop} (hP : va_P D vwCl ws H) (hD : va_D A ws) (hS : va_S A H0 H locs) (hA : ∀ q : Nat, H0.size ≤ q → A q) (isC : List Nat) (hC : isC.map (fun i => ws[i]?) = wc.map some) (hnC : va_nd isC = true)
    (hr : va_P D vwCl wc H → va_D (fun _ => True) wc → (∀ q, va_A wc H.size q → A q) → va_Run p l e R s m args below meth c H locs cells slots 0 0 (F0 m pc ls st0) rest (vp_Si post a) (fun _ => False))
    (kk : ∀ r : Int32, post r → W p l e R s m args below meth c H locs cells slots Q (F0 m (pc + 3) ls (.int r :: rest))) : W p l e R s m args below meth c H locs cells slots Q (F0 m pc ls st0) := by
  obtain ⟨h1, h2, h3⟩ := jx_cut1 hP hD hS hA isC hC hnC
  intro T hT X
  obtain ⟨v, st₀, t, T', L, h0, X', hL, e1, e2, ⟨r, hv, hp, hh⟩, st⟩ := hr h1 h2 h3 T hT X
  cases hv
  have hL0 := jx_L0 hL
  subst hL0
  rw [List.append_nil] at X'
  obtain ⟨t2, a1, b1⟩ := kk r hp T' (by rw [e1, hh, h0]) X'
  exact ⟨t2, st t2 a1, b1⟩
theorem jx_pcalll {post : Int64 → Prop} (hP : va_P D vwCl ws H) (hD : va_D A ws) (hS : va_S A H0 H locs) (hA : ∀ q : Nat, H0.size ≤ q → A q) (isC : List Nat) (hC : isC.map (fun i => ws[i]?) = wc.map some) (hnC : va_nd isC = true)
    (hr : va_P D vwCl wc H → va_D (fun _ => True) wc → (∀ q, va_A wc H.size q → A q) → va_Run p l e R s m args below meth c H locs cells slots 0 0 (F0 m pc ls st0) rest (vp_Sl post a) (fun _ => False))
    (kk : ∀ r : Int64, post r → W p l e R s m args below meth c H locs cells slots Q (F0 m (pc + 3) ls (.long r :: rest))) : W p l e R s m args below meth c H locs cells slots Q (F0 m pc ls st0) := by
  obtain ⟨h1, h2, h3⟩ := jx_cut1 hP hD hS hA isC hC hnC
  intro T hT X
  obtain ⟨v, st₀, t, T', L, h0, X', hL, e1, e2, ⟨r, hv, hp, hh⟩, st⟩ := hr h1 h2 h3 T hT X
  cases hv
  have hL0 := jx_L0 hL
  subst hL0
  rw [List.append_nil] at X'
  obtain ⟨t2, a1, b1⟩ := kk r hp T' (by rw [e1, hh, h0]) X'
  exact ⟨t2, st t2 a1, b1⟩
theorem jx_pcalld {post : UInt64 → Prop} (hP : va_P D vwCl ws H) (hD : va_D A ws) (hS : va_S A H0 H locs) (hA : ∀ q : Nat, H0.size ≤ q → A q) (isC : List Nat) (hC : isC.map (fun i => ws[i]?) = wc.map some) (hnC : va_nd isC = true)
    (hr : va_P D vwCl wc H → va_D (fun _ => True) wc → (∀ q, va_A wc H.size q → A q) → va_Run p l e R s m args below meth c H locs cells slots 0 0 (F0 m pc ls st0) rest (vp_Sd post a) (fun _ => False))
    (kk : ∀ r : UInt64, post r → W p l e R s m args below meth c H locs cells slots Q (F0 m (pc + 3) ls (.double r :: rest))) : W p l e R s m args below meth c H locs cells slots Q (F0 m pc ls st0) := by
  obtain ⟨h1, h2, h3⟩ := jx_cut1 hP hD hS hA isC hC hnC
  intro T hT X
  obtain ⟨v, st₀, t, T', L, h0, X', hL, e1, e2, ⟨r, hv, hp, hh⟩, st⟩ := hr h1 h2 h3 T hT X
  cases hv
  have hL0 := jx_L0 hL
  subst hL0
  rw [List.append_nil] at X'
  obtain ⟨t2, a1, b1⟩ := kk r hp T' (by rw [e1, hh, h0]) X'
  exact ⟨t2, st t2 a1, b1⟩
theorem jx_runVs {Ts wsY ws' : List Cond} {own C : String} {index maxL nL n ci q0 : Nat} {y : MethodName} {bytes : ByteArray} {ret : Option FieldType} {rm : Room} {Qs : Array Value → State → Outcome → State → Prop} {b : Addr} {As : List Value} {q : vw_C} {fs : List Value}
    (hx : p.tables.exec = Jvm.exec) (hb : c.code = cc) (hml : c.maxLocals = nL) (hown : s.vm.findClass own = some m.cls) (hts : ∀ w ∈ Ts, w.before args s = true) (hK : va_K D vwCl tys s) (hX : jx_X tA A s H0) (hS : va_S A H0 H locs) (hls : ls.size = nL)
    (hM : jx_Ms l y wsY rm D tys tA (.ref b :: As) wc Qs) (hT : GoodIn Ts (wsV own index C y wsY)) (hw : wsY = Cond.code y bytes maxL ret :: ws') (hrc : rm.cells = 0) (hrs : rm.slots = 0)
    (hd : y.cls = C ∧ y.cls ≠ "java/lang/invoke/MethodHandle" ∧ y.cls ≠ "java/lang/invoke/VarHandle" ∧ (parseMethodDescriptor y.desc).map (fun d => d.parameters.length) = some n) (hRm : rm.frames + 1 ≤ R.frames ∧ 8 + (maxL + 11) + rm.locals ≤ R.locals)
    (hc : vwCl[ci]? = some q) (hqC : q.1 = C) (he : wc[q0]? = some (b, .inr (ci, fs))) (hn : As.length = n) (hst : st0 = As.reverse ++ .ref b :: rest) (hW : (rest.map fun v => v.category).sum ≤ 8) (hdg : decode cc pc = .ok (.invokevirtual index, 3)) (hf : cells ≤ R.cells ∧ slots ≤ R.slots)
    (hPc : va_P D vwCl wc H) (hDc : va_D (fun _ => True) wc) (hF : ∀ q, va_A wc H.size q → A q) :
    va_Run p l e R s m args below meth c H locs cells slots 0 0 (F0 m pc ls st0) rest (Qs (Value.ref b :: As).toArray) (fun _ => False) := by
  have hp := jx_pre (av := .ref b :: As) hPc hDc hK hX hS hF
  subst hqC
  exact va_runV (As := As) (rest := rest) ⟨hx, hb, hml, hown, hts⟩ (hM H.size) (cwV n hts hT hw hrc hrs hd hRm) ⟨hp.1, va_recv hK hPc hc he, hp.2⟩ rfl hn hls hst (lv_room hW) hdg hf
theorem jx_runSs {Ts wsY ws' : List Cond} {own : String} {index maxL nL n : Nat} {y : MethodName} {bytes : ByteArray} {ret : Option FieldType} {rm : Room} {Qs : Array Value → State → Outcome → State → Prop} {As : List Value}
    (hx : p.tables.exec = Jvm.exec) (hb : c.code = cc) (hml : c.maxLocals = nL) (hown : s.vm.findClass own = some m.cls) (hts : ∀ w ∈ Ts, w.before args s = true) (hK : va_K D vwCl tys s) (hX : jx_X tA A s H0) (hS : va_S A H0 H locs) (hls : ls.size = nL)
    (hM : jx_Ms l y wsY rm D tys tA As wc Qs) (hT : GoodIn Ts (va_wsS own index y wsY)) (hw : wsY = Cond.code y bytes maxL ret :: ws') (hrc : rm.cells = 0) (hrs : rm.slots = 0)
    (hd : y.cls ≠ "java/lang/invoke/MethodHandle" ∧ y.cls ≠ "java/lang/invoke/VarHandle" ∧ (parseMethodDescriptor y.desc).map (fun d => d.parameters.length) = some n) (hRm : rm.frames + 1 ≤ R.frames ∧ 8 + (maxL + 11) + rm.locals ≤ R.locals)
    (hn : As.length = n) (hst : st0 = As.reverse ++ rest) (hW : (rest.map fun v => v.category).sum ≤ 8) (hdg : decode cc pc = .ok (.invokestatic index, 3)) (hf : cells ≤ R.cells ∧ slots ≤ R.slots)
    (hPc : va_P D vwCl wc H) (hDc : va_D (fun _ => True) wc) (hF : ∀ q, va_A wc H.size q → A q) :
    va_Run p l e R s m args below meth c H locs cells slots 0 0 (F0 m pc ls st0) rest (Qs As.toArray) (fun _ => False) := by
  have hp := jx_pre (av := As) hPc hDc hK hX hS hF
  exact va_runS (As := As) (rest := rest) ⟨hx, hb, hml, hown, hts⟩ (hM H.size) (va_cwS n hts hT hw hrc hrs hd hRm) hp rfl hn hls hst (lv_room hW) hdg hf
end JXS
end
section
/-! ===== the objects by their fields: R the references, I the ints and booleans, L the longs, each by its slot ===== -/
def oX0 (R : Nat → Nat) (I : Nat → Int32) (L : Nat → Int64) : List Value := [.ref (R 0), .ref (R 1), .ref (R 2), .int (I 3), .int (I 4), .long (L 5), .long (L 6)]
def oX1 (R : Nat → Nat) (I : Nat → Int32) (L : Nat → Int64) : List Value := [.ref (R 0), .ref (R 1), .ref (R 2), .ref (R 3), .ref (R 4), .ref (R 5), .int (I 6), .long (L 7), .long (L 8), .int (I 9), .int (I 10)]
def oX2 (R : Nat → Nat) (I : Nat → Int32) (L : Nat → Int64) : List Value := [.ref (R 0), .ref (R 1), .int (I 2), .int (I 3), .int (I 4), .ref (R 5), .ref (R 6), .ref (R 7), .ref (R 8)]
def oX3 (R : Nat → Nat) (I : Nat → Int32) (L : Nat → Int64) : List Value := [.ref (R 0), .ref (R 1), .int (I 2)]
def oX4 (R : Nat → Nat) (I : Nat → Int32) (L : Nat → Int64) : List Value := [.int (I 0), .int (I 1), .int (I 2), .int (I 3), .int (I 4), .long (L 5)]
def oX5 (R : Nat → Nat) (I : Nat → Int32) (L : Nat → Int64) : List Value := [.ref (R 0), .int (I 1)]
def oX6 (R : Nat → Nat) (I : Nat → Int32) (L : Nat → Int64) : List Value := [.ref (R 0), .ref (R 1), .ref (R 2), .ref (R 3), .ref (R 4), .long (L 5), .int (I 6), .int (I 7), .int (I 8), .int (I 9), .int (I 10), .int (I 11)]
def oX7 (R : Nat → Nat) (I : Nat → Int32) (L : Nat → Int64) : List Value := [.int (I 0), .ref (R 1), .int (I 2), .ref (R 3), .ref (R 4), .ref (R 5), .ref (R 6), .ref (R 7), .ref (R 8), .int (I 9), .long (L 10), .ref (R 11), .ref (R 12), .ref (R 13), .int (I 14), .int (I 15), .ref (R 16), .ref (R 17), .int (I 18), .int (I 19), .int (I 20), .int (I 21), .int (I 22), .int (I 23), .int (I 24), .long (L 25), .int (I 26), .int (I 27), .int (I 28), .int (I 29), .int (I 30), .int (I 31), .long (L 32), .long (L 33), .long (L 34), .ref (R 35), .ref (R 36), .ref (R 37), .int (I 38), .ref (R 39), .ref (R 40), .ref (R 41), .int (I 42), .int (I 43)]
theorem jx_bn {x : Int32} (h : x = 0 ∨ x = 1) : narrow .boolean (.int x) = .int x := by rcases h with rfl | rfl <;> rfl
theorem jx_bf {x : Int32} (h : x = 0 ∨ x = 1) : fits .boolean (.int x) = true := by rcases h with rfl | rfl <;> rfl
theorem jx_inc {x : Int32} {N : Nat} (h0 : ¬ x < 0) (h1 : x.toInt < N) : vp_in x N := vp_in_iff.mpr ⟨by rw [Int32.lt_iff_toInt_lt] at h0; simpa using h0, h1⟩
theorem jx_inlt {x n : Int32} {N : Nat} (h0 : ¬ x < 0) (h1 : ¬ n ≤ x) (hn : n.toInt ≤ N) : vp_in x N := jx_inc h0 (by rw [Int32.le_iff_toInt_le] at h1; omega)
theorem jx_inlu {x n : Int32} {N : Nat} (h0 : ¬ x < 0) (h1 : x < n) (hn : n.toInt ≤ N) : vp_in x N := jx_inc h0 (by rw [Int32.lt_iff_toInt_lt] at h1; omega)
theorem jx_in2 {x : Int32} (h : x = 0 ∨ x = 1) : vp_in x 2 := by rcases h with rfl | rfl <;> (unfold vp_in; decide)
def sX4_stands (I : Nat → Int32) : Int32 := (if (I 1) = 0 then (1 : Int32) else (0 : Int32))
set_option maxRecDepth 20000 in
theorem iX4_stands_4 : ∀ w ∈ wsX40, w ∈ wsX4_stands := by decide +kernel
set_option maxHeartbeats 4000000 in
set_option maxRecDepth 100000 in
theorem kX4_stands (l : Launch) (D : va_G) (cI cJ cZ cD : ClassId) (tA : Nat) (h : Nat) (R : Nat → Nat) (I : Nat → Int32) (L : Nat → Int64) : jx_Ms l yX4_stands wsX4_stands ({ frames := 0, cells := 0, slots := 0, locals := 0 }) D (jT cI cJ cZ cD) tA [.ref h] [(h, .inr (4, (oX4 R I L)))] (vp_Si (fun r => r = (sX4_stands I))) := by
  refine jx_ofs (cc := cX4_stands) (maxL := 1) (ret := (some .boolean)) (by decide +kernel) rfl (Nat.le_of_ble_eq_true rfl) ?_
  intro p e s m below meth c A ls hx hb hr hlocks hml hown hts hK hP hD hA hS hX hl
  have hl : lv_has ls 1 [(0, .ref h)] := hl
  have hown : s.vm.findClass RX4 = some m.cls := hown
  have hk15 := hts (.fieldLink RX4 15 "LoomDesk$Shaft" "mode" "I") (by decide +kernel)
  refine lv_aload_n hx hb dX4_stands_0 rfl (lv_at hl 0 rfl) ?_
  refine jx_get (v := .int (I 1)) hx hb hts iX4_stands_4 hown hK hP 0 rfl rfl 1 (by decide) hk15 rfl rfl dX4_stands_1 ?_
  refine lv_if_ne (tgt := 11) hx hb dX4_stands_4 (by decide) (fun c_1 => ?_) (fun c_1 => ?_)
  · skip
    refine lv_iconst (v := 0) hx hb dX4_stands_11 (by decide) ?_
    have hq : (sX4_stands I) = (0 : Int32) := by first | (rw [sX4_stands, if_neg c_1]; done) | simp only [sX4_stands, if_neg c_1]
    exact jx_szret hx hb hr hlocks hq.symm (Or.inl rfl) dX4_stands_12
  · skip
    refine lv_iconst (v := 1) hx hb dX4_stands_7 (by decide) ?_
    refine lv_goto (tgt := 12) hx hb dX4_stands_8 (by decide) ?_
    have hq : (sX4_stands I) = (1 : Int32) := by first | (rw [sX4_stands, if_pos c_1]; done) | simp only [sX4_stands, if_pos c_1]
    exact jx_szret hx hb hr hlocks hq.symm (Or.inr rfl) dX4_stands_12

def sX4_stand (I : Nat → Int32) : (Nat → Int32) := (upd (upd I 1 (0 : Int32)) 2 (0 : Int32))
set_option maxRecDepth 20000 in
theorem iX4_stand_4 : ∀ w ∈ wsX40, w ∈ wsX4_stand := by decide +kernel
set_option maxHeartbeats 4000000 in
set_option maxRecDepth 100000 in
theorem kX4_stand (l : Launch) (D : va_G) (cI cJ cZ cD : ClassId) (tA : Nat) (h : Nat) (R : Nat → Nat) (I : Nat → Int32) (L : Nat → Int64) : jx_M l yX4_stand wsX4_stand ({ frames := 0, cells := 0, slots := 0, locals := 0 }) D (jT cI cJ cZ cD) tA [.ref h] [(h, .inr (4, (oX4 R I L)))] (jx_Qv D (jT cI cJ cZ cD) (fun (_ : Unit) => True) (fun _ => [(h, .inr (4, (oX4 R (sX4_stand I) L)))])) := by
  refine jx_of (cc := cX4_stand) (maxL := 1) (ret := none) (by decide +kernel) rfl (Nat.le_of_ble_eq_true rfl) ?_
  intro p e s m below meth c A ls hx hb hr hlocks hml hown hts hK hP hD hA hS hX hl
  have hl : lv_has ls 1 [(0, .ref h)] := hl
  have hown : s.vm.findClass RX4 = some m.cls := hown
  have hk15 := hts (.fieldLink RX4 15 "LoomDesk$Shaft" "mode" "I") (by decide +kernel)
  have hk18 := hts (.fieldLink RX4 18 "LoomDesk$Shaft" "toGo" "I") (by decide +kernel)
  refine lv_aload_n hx hb dX4_stand_0 rfl (lv_at hl 0 rfl) ?_
  refine lv_iconst (v := 0) hx hb dX4_stand_1 (by decide) ?_
  refine jx_put (w2 := [(h, .inr (4, (oX4 R (upd I 1 (0 : Int32)) L)))]) hx hb hts iX4_stand_4 tyX4 tyX4_ok nmX4 hown hK hP hD hS 0 rfl rfl 1 (by decide) hk15 rfl rfl rfl rfl (Nat.le_of_ble_eq_true rfl) dX4_stand_2 rfl (fun H locs hP hD hS => ?_)
  refine lv_aload_n hx hb dX4_stand_5 rfl (lv_at hl 0 rfl) ?_
  refine lv_iconst (v := 0) hx hb dX4_stand_6 (by decide) ?_
  refine jx_put (w2 := [(h, .inr (4, (oX4 R (upd (upd I 1 (0 : Int32)) 2 (0 : Int32)) L)))]) hx hb hts iX4_stand_4 tyX4 tyX4_ok nmX4 hown hK hP hD hS 0 rfl rfl 2 (by decide) hk18 rfl rfl rfl rfl (Nat.le_of_ble_eq_true rfl) dX4_stand_7 rfl (fun H locs hP hD hS => ?_)
  have hq : (sX4_stand I) = (upd (upd I 1 (0 : Int32)) 2 (0 : Int32)) := rfl
  exact jx_vret () hx hb hr hlocks hK hP hD hS (by rw [hq]) trivial dX4_stand_10

def sX4_orderBrake (I : Nat → Int32) : Int32 × (Nat → Int32) := (if (I 1) = (1 : Int32) then ((1 : Int32), (upd (upd (upd I 1 (2 : Int32)) 2 (I 3)) 4 ((I 4) + (1 : Int32)))) else ((0 : Int32), I))
set_option maxRecDepth 20000 in
theorem iX4_orderBrake_4 : ∀ w ∈ wsX40, w ∈ wsX4_orderBrake := by decide +kernel
set_option maxHeartbeats 4000000 in
set_option maxRecDepth 100000 in
theorem kX4_orderBrake (l : Launch) (D : va_G) (cI cJ cZ cD : ClassId) (tA : Nat) (h : Nat) (R : Nat → Nat) (I : Nat → Int32) (L : Nat → Int64) : jx_M l yX4_orderBrake wsX4_orderBrake ({ frames := 0, cells := 0, slots := 0, locals := 0 }) D (jT cI cJ cZ cD) tA [.ref h] [(h, .inr (4, (oX4 R I L)))] (jx_Qi D (jT cI cJ cZ cD) (fun r (_ : Unit) => r = (sX4_orderBrake I).1) (fun _ => [(h, .inr (4, (oX4 R (sX4_orderBrake I).2 L)))])) := by
  refine jx_of (cc := cX4_orderBrake) (maxL := 1) (ret := (some .boolean)) (by decide +kernel) rfl (Nat.le_of_ble_eq_true rfl) ?_
  intro p e s m below meth c A ls hx hb hr hlocks hml hown hts hK hP hD hA hS hX hl
  have hl : lv_has ls 1 [(0, .ref h)] := hl
  have hown : s.vm.findClass RX4 = some m.cls := hown
  have hk15 := hts (.fieldLink RX4 15 "LoomDesk$Shaft" "mode" "I") (by decide +kernel)
  have hk18 := hts (.fieldLink RX4 18 "LoomDesk$Shaft" "toGo" "I") (by decide +kernel)
  have hk21 := hts (.fieldLink RX4 21 "LoomDesk$Shaft" "pace" "I") (by decide +kernel)
  have hk24 := hts (.fieldLink RX4 24 "LoomDesk$Shaft" "orders" "I") (by decide +kernel)
  refine lv_aload_n hx hb dX4_orderBrake_0 rfl (lv_at hl 0 rfl) ?_
  refine jx_get (v := .int (I 1)) hx hb hts iX4_orderBrake_4 hown hK hP 0 rfl rfl 1 (by decide) hk15 rfl rfl dX4_orderBrake_1 ?_
  refine lv_iconst (v := 1) hx hb dX4_orderBrake_4 (by decide) ?_
  refine lv_icmp_eq (tgt := 10) hx hb dX4_orderBrake_5 (by decide) (fun c_1 => ?_) (fun c_1 => ?_)
  · skip
    refine lv_aload_n hx hb dX4_orderBrake_10 rfl (lv_at hl 0 rfl) ?_
    refine lv_iconst (v := 2) hx hb dX4_orderBrake_11 (by decide) ?_
    refine jx_put (w2 := [(h, .inr (4, (oX4 R (upd I 1 (2 : Int32)) L)))]) hx hb hts iX4_orderBrake_4 tyX4 tyX4_ok nmX4 hown hK hP hD hS 0 rfl rfl 1 (by decide) hk15 rfl rfl rfl rfl (Nat.le_of_ble_eq_true rfl) dX4_orderBrake_12 rfl (fun H locs hP hD hS => ?_)
    refine lv_aload_n hx hb dX4_orderBrake_15 rfl (lv_at hl 0 rfl) ?_
    refine lv_aload_n hx hb dX4_orderBrake_16 rfl (lv_at hl 0 rfl) ?_
    refine jx_get (v := .int (I 3)) hx hb hts iX4_orderBrake_4 hown hK hP 0 rfl rfl 3 (by decide) hk21 rfl rfl dX4_orderBrake_17 ?_
    refine jx_put (w2 := [(h, .inr (4, (oX4 R (upd (upd I 1 (2 : Int32)) 2 (I 3)) L)))]) hx hb hts iX4_orderBrake_4 tyX4 tyX4_ok nmX4 hown hK hP hD hS 0 rfl rfl 2 (by decide) hk18 rfl rfl rfl rfl (Nat.le_of_ble_eq_true rfl) dX4_orderBrake_20 rfl (fun H locs hP hD hS => ?_)
    refine lv_aload_n hx hb dX4_orderBrake_23 rfl (lv_at hl 0 rfl) ?_
    refine lv_dup hx hb dX4_orderBrake_24 rfl ?_
    refine jx_get (v := .int (I 4)) hx hb hts iX4_orderBrake_4 hown hK hP 0 rfl rfl 4 (by decide) hk24 rfl rfl dX4_orderBrake_25 ?_
    refine lv_iconst (v := 1) hx hb dX4_orderBrake_28 (by decide) ?_
    refine lv_iadd hx hb dX4_orderBrake_29 ?_
    refine lv_topi (fun v_2 ev_2 => ?_)
    refine jx_put (w2 := [(h, .inr (4, (oX4 R (upd (upd (upd I 1 (2 : Int32)) 2 (I 3)) 4 v_2) L)))]) hx hb hts iX4_orderBrake_4 tyX4 tyX4_ok nmX4 hown hK hP hD hS 0 rfl rfl 4 (by decide) hk24 rfl rfl rfl rfl (Nat.le_of_ble_eq_true rfl) dX4_orderBrake_30 rfl (fun H locs hP hD hS => ?_)
    refine lv_iconst (v := 1) hx hb dX4_orderBrake_33 (by decide) ?_
    have hq : (sX4_orderBrake I) = ((1 : Int32), (upd (upd (upd I 1 (2 : Int32)) 2 (I 3)) 4 v_2)) := by clear hP hD hl; subst ev_2; first | (rw [sX4_orderBrake, if_pos c_1]; done) | simp only [sX4_orderBrake, if_pos c_1]
    exact jx_zret () hx hb hr hlocks hK hP hD hS (by rw [hq]) (by rw [hq]) (Or.inr rfl) dX4_orderBrake_34
  · skip
    refine lv_iconst (v := 0) hx hb dX4_orderBrake_8 (by decide) ?_
    have hq : (sX4_orderBrake I) = ((0 : Int32), I) := by first | (rw [sX4_orderBrake, if_neg c_1]; done) | simp only [sX4_orderBrake, if_neg c_1]
    exact jx_zret () hx hb hr hlocks hK hP hD hS (by rw [hq]) (by rw [hq]) (Or.inl rfl) dX4_orderBrake_9

def sX4_markAbove (I : Nat → Int32) : Int32 := (if (480 : Int32) ≤ (I 0) then (if (1440 : Int32) ≤ (I 0) then (if (4800 : Int32) ≤ (I 0) then (5760 : Int32) else (4800 : Int32)) else (1440 : Int32)) else (480 : Int32))
set_option maxRecDepth 20000 in
theorem iX4_markAbove_4 : ∀ w ∈ wsX40, w ∈ wsX4_markAbove := by decide +kernel
set_option maxHeartbeats 4000000 in
set_option maxRecDepth 100000 in
theorem kX4_markAbove (l : Launch) (D : va_G) (cI cJ cZ cD : ClassId) (tA : Nat) (h : Nat) (R : Nat → Nat) (I : Nat → Int32) (L : Nat → Int64) : jx_Ms l yX4_markAbove wsX4_markAbove ({ frames := 0, cells := 0, slots := 0, locals := 0 }) D (jT cI cJ cZ cD) tA [.ref h] [(h, .inr (4, (oX4 R I L)))] (vp_Si (fun r => r = (sX4_markAbove I))) := by
  refine jx_ofs (cc := cX4_markAbove) (maxL := 1) (ret := (some .int)) (by decide +kernel) rfl (Nat.le_of_ble_eq_true rfl) ?_
  intro p e s m below meth c A ls hx hb hr hlocks hml hown hts hK hP hD hA hS hX hl
  have hl : lv_has ls 1 [(0, .ref h)] := hl
  have hown : s.vm.findClass RX4 = some m.cls := hown
  have hk9 := hts (.fieldLink RX4 9 "LoomDesk$Shaft" "at" "I") (by decide +kernel)
  refine lv_aload_n hx hb dX4_markAbove_0 rfl (lv_at hl 0 rfl) ?_
  refine jx_get (v := .int (I 0)) hx hb hts iX4_markAbove_4 hown hK hP 0 rfl rfl 0 (by decide) hk9 rfl rfl dX4_markAbove_1 ?_
  refine lv_sipush (v := 480) hx hb dX4_markAbove_4 (by decide) ?_
  refine lv_icmp_ge (tgt := 14) hx hb dX4_markAbove_7 (by decide) (fun c_1 => ?_) (fun c_1 => ?_)
  · skip
    refine lv_aload_n hx hb dX4_markAbove_14 rfl (lv_at hl 0 rfl) ?_
    refine jx_get (v := .int (I 0)) hx hb hts iX4_markAbove_4 hown hK hP 0 rfl rfl 0 (by decide) hk9 rfl rfl dX4_markAbove_15 ?_
    refine lv_sipush (v := 1440) hx hb dX4_markAbove_18 (by decide) ?_
    refine lv_icmp_ge (tgt := 28) hx hb dX4_markAbove_21 (by decide) (fun c_2 => ?_) (fun c_2 => ?_)
    · skip
      refine lv_aload_n hx hb dX4_markAbove_28 rfl (lv_at hl 0 rfl) ?_
      refine jx_get (v := .int (I 0)) hx hb hts iX4_markAbove_4 hown hK hP 0 rfl rfl 0 (by decide) hk9 rfl rfl dX4_markAbove_29 ?_
      refine lv_sipush (v := 4800) hx hb dX4_markAbove_32 (by decide) ?_
      refine lv_icmp_ge (tgt := 44) hx hb dX4_markAbove_35 (by decide) (fun c_3 => ?_) (fun c_3 => ?_)
      · skip
        refine lv_sipush (v := 5760) hx hb dX4_markAbove_44 (by decide) ?_
        have hq : (sX4_markAbove I) = (5760 : Int32) := by first | (rw [sX4_markAbove, if_pos c_1, if_pos c_2, if_pos c_3]; done) | simp only [sX4_markAbove, if_pos c_1, if_pos c_2, if_pos c_3]
        exact jx_siret hx hb hr hlocks hq.symm dX4_markAbove_47
      · skip
        refine lv_sipush (v := 4800) hx hb dX4_markAbove_38 (by decide) ?_
        refine lv_goto (tgt := 47) hx hb dX4_markAbove_41 (by decide) ?_
        have hq : (sX4_markAbove I) = (4800 : Int32) := by first | (rw [sX4_markAbove, if_pos c_1, if_pos c_2, if_neg c_3]; done) | simp only [sX4_markAbove, if_pos c_1, if_pos c_2, if_neg c_3]
        exact jx_siret hx hb hr hlocks hq.symm dX4_markAbove_47
    · skip
      refine lv_sipush (v := 1440) hx hb dX4_markAbove_24 (by decide) ?_
      have hq : (sX4_markAbove I) = (1440 : Int32) := by first | (rw [sX4_markAbove, if_pos c_1, if_neg c_2]; done) | simp only [sX4_markAbove, if_pos c_1, if_neg c_2]
      exact jx_siret hx hb hr hlocks hq.symm dX4_markAbove_27
  · skip
    refine lv_sipush (v := 480) hx hb dX4_markAbove_10 (by decide) ?_
    have hq : (sX4_markAbove I) = (480 : Int32) := by first | (rw [sX4_markAbove, if_neg c_1]; done) | simp only [sX4_markAbove, if_neg c_1]
    exact jx_siret hx hb hr hlocks hq.symm dX4_markAbove_13

def sX4_markBelow (a0 : Int32) : Int32 := (if a0 ≤ (4800 : Int32) then (if a0 ≤ (1440 : Int32) then (if a0 ≤ (480 : Int32) then (0 : Int32) else (480 : Int32)) else (1440 : Int32)) else (4800 : Int32))
set_option maxHeartbeats 4000000 in
set_option maxRecDepth 100000 in
theorem kX4_markBelow (l : Launch) (D : va_G) (cI cJ cZ cD : ClassId) (tA : Nat) (h : Nat) (R : Nat → Nat) (I : Nat → Int32) (L : Nat → Int64) (a0 : Int32) : jx_Ms l yX4_markBelow wsX4_markBelow ({ frames := 0, cells := 0, slots := 0, locals := 0 }) D (jT cI cJ cZ cD) tA [.ref h, .int a0] [(h, .inr (4, (oX4 R I L)))] (vp_Si (fun r => r = (sX4_markBelow a0))) := by
  refine jx_ofs (cc := cX4_markBelow) (maxL := 2) (ret := (some .int)) (by decide +kernel) rfl (Nat.le_of_ble_eq_true rfl) ?_
  intro p e s m below meth c A ls hx hb hr hlocks hml hown hts hK hP hD hA hS hX hl
  have hl : lv_has ls 2 [(0, .ref h), (1, .int a0)] := hl
  have hown : s.vm.findClass RX4 = some m.cls := hown
  refine lv_iload_n hx hb dX4_markBelow_0 rfl (lv_at hl 1 rfl) ?_
  refine lv_sipush (v := 4800) hx hb dX4_markBelow_1 (by decide) ?_
  refine lv_icmp_le (tgt := 11) hx hb dX4_markBelow_4 (by decide) (fun c_1 => ?_) (fun c_1 => ?_)
  · skip
    refine lv_iload_n hx hb dX4_markBelow_11 rfl (lv_at hl 1 rfl) ?_
    refine lv_sipush (v := 1440) hx hb dX4_markBelow_12 (by decide) ?_
    refine lv_icmp_le (tgt := 22) hx hb dX4_markBelow_15 (by decide) (fun c_2 => ?_) (fun c_2 => ?_)
    · skip
      refine lv_iload_n hx hb dX4_markBelow_22 rfl (lv_at hl 1 rfl) ?_
      refine lv_sipush (v := 480) hx hb dX4_markBelow_23 (by decide) ?_
      refine lv_icmp_le (tgt := 35) hx hb dX4_markBelow_26 (by decide) (fun c_3 => ?_) (fun c_3 => ?_)
      · skip
        refine lv_iconst (v := 0) hx hb dX4_markBelow_35 (by decide) ?_
        have hq : (sX4_markBelow a0) = (0 : Int32) := by first | (rw [sX4_markBelow, if_pos c_1, if_pos c_2, if_pos c_3]; done) | simp only [sX4_markBelow, if_pos c_1, if_pos c_2, if_pos c_3]
        exact jx_siret hx hb hr hlocks hq.symm dX4_markBelow_36
      · skip
        refine lv_sipush (v := 480) hx hb dX4_markBelow_29 (by decide) ?_
        refine lv_goto (tgt := 36) hx hb dX4_markBelow_32 (by decide) ?_
        have hq : (sX4_markBelow a0) = (480 : Int32) := by first | (rw [sX4_markBelow, if_pos c_1, if_pos c_2, if_neg c_3]; done) | simp only [sX4_markBelow, if_pos c_1, if_pos c_2, if_neg c_3]
        exact jx_siret hx hb hr hlocks hq.symm dX4_markBelow_36
    · skip
      refine lv_sipush (v := 1440) hx hb dX4_markBelow_18 (by decide) ?_
      have hq : (sX4_markBelow a0) = (1440 : Int32) := by first | (rw [sX4_markBelow, if_pos c_1, if_neg c_2]; done) | simp only [sX4_markBelow, if_pos c_1, if_neg c_2]
      exact jx_siret hx hb hr hlocks hq.symm dX4_markBelow_21
  · skip
    refine lv_sipush (v := 4800) hx hb dX4_markBelow_7 (by decide) ?_
    have hq : (sX4_markBelow a0) = (4800 : Int32) := by first | (rw [sX4_markBelow, if_neg c_1]; done) | simp only [sX4_markBelow, if_neg c_1]
    exact jx_siret hx hb hr hlocks hq.symm dX4_markBelow_10

def sX4_goTowards (I : Nat → Int32) (a0 : Int32) (a1 : Int32) : Int32 × (Nat → Int32) := (if (I 1) = (2 : Int32) then ((if (I 2) < (if a1 < (a0 - (I 0)) then a1 else (a0 - (I 0))) then (I 2) else (if a1 < (a0 - (I 0)) then a1 else (a0 - (I 0)))), (upd (upd I 0 ((I 0) + (if (I 2) < (if a1 < (a0 - (I 0)) then a1 else (a0 - (I 0))) then (I 2) else (if a1 < (a0 - (I 0)) then a1 else (a0 - (I 0)))))) 2 ((I 2) - (if (I 2) < (if a1 < (a0 - (I 0)) then a1 else (a0 - (I 0))) then (I 2) else (if a1 < (a0 - (I 0)) then a1 else (a0 - (I 0))))))) else ((if a1 < (a0 - (I 0)) then a1 else (a0 - (I 0))), (upd I 0 ((I 0) + (if a1 < (a0 - (I 0)) then a1 else (a0 - (I 0)))))))
set_option maxRecDepth 20000 in
theorem iX4_goTowards_4 : ∀ w ∈ wsX40, w ∈ wsX4_goTowards := by decide +kernel
set_option maxHeartbeats 4000000 in
set_option maxRecDepth 100000 in
theorem kX4_goTowards (l : Launch) (D : va_G) (cI cJ cZ cD : ClassId) (tA : Nat) (h : Nat) (R : Nat → Nat) (I : Nat → Int32) (L : Nat → Int64) (a0 : Int32) (a1 : Int32) : jx_M l yX4_goTowards wsX4_goTowards ({ frames := 1, cells := 0, slots := 0, locals := 21 }) D (jT cI cJ cZ cD) tA [.ref h, .int a0, .int a1] [(h, .inr (4, (oX4 R I L)))] (jx_Qi D (jT cI cJ cZ cD) (fun r (_ : Unit) => r = (sX4_goTowards I a0 a1).1) (fun _ => [(h, .inr (4, (oX4 R (sX4_goTowards I a0 a1).2 L)))])) := by
  refine jx_of (cc := cX4_goTowards) (maxL := 4) (ret := (some .int)) (by decide +kernel) rfl (Nat.le_of_ble_eq_true rfl) ?_
  intro p e s m below meth c A ls hx hb hr hlocks hml hown hts hK hP hD hA hS hX hl
  have hl : lv_has ls 4 [(0, .ref h), (1, .int a0), (2, .int a1)] := hl
  have hown : s.vm.findClass RX4 = some m.cls := hown
  have hk9 := hts (.fieldLink RX4 9 "LoomDesk$Shaft" "at" "I") (by decide +kernel)
  have hk15 := hts (.fieldLink RX4 15 "LoomDesk$Shaft" "mode" "I") (by decide +kernel)
  have hk18 := hts (.fieldLink RX4 18 "LoomDesk$Shaft" "toGo" "I") (by decide +kernel)
  refine lv_iload_n hx hb dX4_goTowards_0 rfl (lv_at hl 1 rfl) ?_
  refine lv_aload_n hx hb dX4_goTowards_1 rfl (lv_at hl 0 rfl) ?_
  refine jx_get (v := .int (I 0)) hx hb hts iX4_goTowards_4 hown hK hP 0 rfl rfl 0 (by decide) hk9 rfl rfl dX4_goTowards_2 ?_
  refine lv_isub hx hb dX4_goTowards_5 ?_
  refine lv_iload_n hx hb dX4_goTowards_6 rfl (lv_at hl 2 rfl) ?_
  refine va_mmin hx hb (hml.trans hl.1.symm) hown (hts (.methodLink RX4 31 Lib.Math.min.name) (by decide +kernel)) (hts (.static Lib.Math.min.name) (by decide +kernel)) (hts (.initialized "java/lang/Math") (by decide +kernel)) (hts (.code Lib.Math.min.name Lib.Math.min.code 2 (some .int)) (by decide +kernel)) (Nat.le_of_ble_eq_true rfl) (Nat.le_of_ble_eq_true rfl) (Nat.zero_le _) (Nat.zero_le _) dX4_goTowards_7 ?_
  refine lv_topi (fun v_1 ev_1 => ?_)
  refine lv_istore_n (lv' := [(3, .int v_1), (0, .ref h), (1, .int a0), (2, .int a1)]) hx hb dX4_goTowards_10 rfl hl (by decide) rfl (fun ls hl => ?_)
  refine lv_aload_n hx hb dX4_goTowards_11 rfl (lv_at hl 1 rfl) ?_
  refine jx_get (v := .int (I 1)) hx hb hts iX4_goTowards_4 hown hK hP 0 rfl rfl 1 (by decide) hk15 rfl rfl dX4_goTowards_12 ?_
  refine lv_iconst (v := 2) hx hb dX4_goTowards_15 (by decide) ?_
  refine lv_icmp_ne (tgt := 38) hx hb dX4_goTowards_16 (by decide) (fun c_2 => ?_) (fun c_2 => ?_)
  · skip
    refine lv_aload_n hx hb dX4_goTowards_38 rfl (lv_at hl 1 rfl) ?_
    refine lv_dup hx hb dX4_goTowards_39 rfl ?_
    refine jx_get (v := .int (I 0)) hx hb hts iX4_goTowards_4 hown hK hP 0 rfl rfl 0 (by decide) hk9 rfl rfl dX4_goTowards_40 ?_
    refine lv_iload_n hx hb dX4_goTowards_43 rfl (lv_at hl 0 rfl) ?_
    refine lv_iadd hx hb dX4_goTowards_44 ?_
    refine lv_topi (fun v_3 ev_3 => ?_)
    refine jx_put (w2 := [(h, .inr (4, (oX4 R (upd I 0 v_3) L)))]) hx hb hts iX4_goTowards_4 tyX4 tyX4_ok nmX4 hown hK hP hD hS 0 rfl rfl 0 (by decide) hk9 rfl rfl rfl rfl (Nat.le_of_ble_eq_true rfl) dX4_goTowards_45 rfl (fun H locs hP hD hS => ?_)
    refine lv_iload_n hx hb dX4_goTowards_48 rfl (lv_at hl 0 rfl) ?_
    have hq : (sX4_goTowards I a0 a1) = (v_1, (upd I 0 v_3)) := by clear hP hD hl; subst ev_3; subst ev_1; first | (rw [sX4_goTowards, if_neg c_2]; done) | simp only [sX4_goTowards, if_neg c_2]
    exact jx_iret () hx hb hr hlocks hK hP hD hS (by rw [hq]) (by rw [hq]) dX4_goTowards_49
  · skip
    refine lv_iload_n hx hb dX4_goTowards_19 rfl (lv_at hl 0 rfl) ?_
    refine lv_aload_n hx hb dX4_goTowards_20 rfl (lv_at hl 1 rfl) ?_
    refine jx_get (v := .int (I 2)) hx hb hts iX4_goTowards_4 hown hK hP 0 rfl rfl 2 (by decide) hk18 rfl rfl dX4_goTowards_21 ?_
    refine va_mmin hx hb (hml.trans hl.1.symm) hown (hts (.methodLink RX4 31 Lib.Math.min.name) (by decide +kernel)) (hts (.static Lib.Math.min.name) (by decide +kernel)) (hts (.initialized "java/lang/Math") (by decide +kernel)) (hts (.code Lib.Math.min.name Lib.Math.min.code 2 (some .int)) (by decide +kernel)) (Nat.le_of_ble_eq_true rfl) (Nat.le_of_ble_eq_true rfl) (Nat.zero_le _) (Nat.zero_le _) dX4_goTowards_24 ?_
    refine lv_topi (fun v_4 ev_4 => ?_)
    refine lv_istore_n (lv' := [(3, .int v_4), (0, .ref h), (1, .int a0), (2, .int a1)]) hx hb dX4_goTowards_27 rfl hl (by decide) rfl (fun ls hl => ?_)
    refine lv_aload_n hx hb dX4_goTowards_28 rfl (lv_at hl 1 rfl) ?_
    refine lv_dup hx hb dX4_goTowards_29 rfl ?_
    refine jx_get (v := .int (I 2)) hx hb hts iX4_goTowards_4 hown hK hP 0 rfl rfl 2 (by decide) hk18 rfl rfl dX4_goTowards_30 ?_
    refine lv_iload_n hx hb dX4_goTowards_33 rfl (lv_at hl 0 rfl) ?_
    refine lv_isub hx hb dX4_goTowards_34 ?_
    refine lv_topi (fun v_5 ev_5 => ?_)
    refine jx_put (w2 := [(h, .inr (4, (oX4 R (upd I 2 v_5) L)))]) hx hb hts iX4_goTowards_4 tyX4 tyX4_ok nmX4 hown hK hP hD hS 0 rfl rfl 2 (by decide) hk18 rfl rfl rfl rfl (Nat.le_of_ble_eq_true rfl) dX4_goTowards_35 rfl (fun H locs hP hD hS => ?_)
    refine lv_aload_n hx hb dX4_goTowards_38 rfl (lv_at hl 1 rfl) ?_
    refine lv_dup hx hb dX4_goTowards_39 rfl ?_
    refine jx_get (v := .int (I 0)) hx hb hts iX4_goTowards_4 hown hK hP 0 rfl rfl 0 (by decide) hk9 rfl rfl dX4_goTowards_40 ?_
    refine lv_iload_n hx hb dX4_goTowards_43 rfl (lv_at hl 0 rfl) ?_
    refine lv_iadd hx hb dX4_goTowards_44 ?_
    refine lv_topi (fun v_6 ev_6 => ?_)
    refine jx_put (w2 := [(h, .inr (4, (oX4 R (upd (upd I 0 v_6) 2 v_5) L)))]) hx hb hts iX4_goTowards_4 tyX4 tyX4_ok nmX4 hown hK hP hD hS 0 rfl rfl 0 (by decide) hk9 rfl rfl rfl rfl (Nat.le_of_ble_eq_true rfl) dX4_goTowards_45 rfl (fun H locs hP hD hS => ?_)
    refine lv_iload_n hx hb dX4_goTowards_48 rfl (lv_at hl 0 rfl) ?_
    have hq : (sX4_goTowards I a0 a1) = (v_4, (upd (upd I 0 v_6) 2 v_5)) := by clear hP hD hl; subst ev_6; subst ev_5; subst ev_4; subst ev_1; first | (rw [sX4_goTowards, if_pos c_2]; done) | simp only [sX4_goTowards, if_pos c_2]
    exact jx_iret () hx hb hr hlocks hK hP hD hS (by rw [hq]) (by rw [hq]) dX4_goTowards_49

def sX4_standWhenSpent (I : Nat → Int32) : (Nat → Int32) := (if (I 1) = (2 : Int32) then (if (I 2) = 0 then (sX4_stand I) else I) else I)
set_option maxRecDepth 20000 in
theorem iX4_standWhenSpent_4 : ∀ w ∈ wsX40, w ∈ wsX4_standWhenSpent := by decide +kernel
set_option maxHeartbeats 4000000 in
set_option maxRecDepth 100000 in
theorem kX4_standWhenSpent (l : Launch) (D : va_G) (cI cJ cZ cD : ClassId) (tA : Nat) (h : Nat) (R : Nat → Nat) (I : Nat → Int32) (L : Nat → Int64) : jx_M l yX4_standWhenSpent wsX4_standWhenSpent ({ frames := 1, cells := 0, slots := 0, locals := 20 }) D (jT cI cJ cZ cD) tA [.ref h] [(h, .inr (4, (oX4 R I L)))] (jx_Qv D (jT cI cJ cZ cD) (fun (_ : Unit) => True) (fun _ => [(h, .inr (4, (oX4 R (sX4_standWhenSpent I) L)))])) := by
  refine jx_of (cc := cX4_standWhenSpent) (maxL := 1) (ret := none) (by decide +kernel) rfl (Nat.le_of_ble_eq_true rfl) ?_
  intro p e s m below meth c A ls hx hb hr hlocks hml hown hts hK hP hD hA hS hX hl
  have hl : lv_has ls 1 [(0, .ref h)] := hl
  have hown : s.vm.findClass RX4 = some m.cls := hown
  have hk15 := hts (.fieldLink RX4 15 "LoomDesk$Shaft" "mode" "I") (by decide +kernel)
  have hk18 := hts (.fieldLink RX4 18 "LoomDesk$Shaft" "toGo" "I") (by decide +kernel)
  refine lv_aload_n hx hb dX4_standWhenSpent_0 rfl (lv_at hl 0 rfl) ?_
  refine jx_get (v := .int (I 1)) hx hb hts iX4_standWhenSpent_4 hown hK hP 0 rfl rfl 1 (by decide) hk15 rfl rfl dX4_standWhenSpent_1 ?_
  refine lv_iconst (v := 2) hx hb dX4_standWhenSpent_4 (by decide) ?_
  refine lv_icmp_ne (tgt := 19) hx hb dX4_standWhenSpent_5 (by decide) (fun c_1 => ?_) (fun c_1 => ?_)
  · skip
    have hq : (sX4_standWhenSpent I) = I := by first | (rw [sX4_standWhenSpent, if_neg c_1]; done) | simp only [sX4_standWhenSpent, if_neg c_1]
    exact jx_vret () hx hb hr hlocks hK hP hD hS (by rw [hq]) trivial dX4_standWhenSpent_19
  · skip
    refine lv_aload_n hx hb dX4_standWhenSpent_8 rfl (lv_at hl 0 rfl) ?_
    refine jx_get (v := .int (I 2)) hx hb hts iX4_standWhenSpent_4 hown hK hP 0 rfl rfl 2 (by decide) hk18 rfl rfl dX4_standWhenSpent_9 ?_
    refine lv_if_ne (tgt := 19) hx hb dX4_standWhenSpent_12 (by decide) (fun c_2 => ?_) (fun c_2 => ?_)
    · skip
      have hq : (sX4_standWhenSpent I) = I := by first | (rw [sX4_standWhenSpent, if_pos c_1, if_neg c_2]; done) | simp only [sX4_standWhenSpent, if_pos c_1, if_neg c_2]
      exact jx_vret () hx hb hr hlocks hK hP hD hS (by rw [hq]) trivial dX4_standWhenSpent_19
    · skip
      refine lv_aload_n hx hb dX4_standWhenSpent_15 rfl (lv_at hl 0 rfl) ?_
      refine jx_callv (wc := [(h, .inr (4, (oX4 R I L)))]) (wr := []) hP hD hS hA hK [0] [] rfl rfl (by decide) (by decide) (by decide) (fun hPc hDc hF => jx_runV (As := []) (rest := []) (n := 0) (ci := 4) (q0 := 0) hx hb hml hown hts hK hX hS hl.1 (kX4_stand l D cI cJ cZ cD tA h R I L) gX4_standWhenSpent_X4_stand rfl rfl rfl (by decide +kernel) ⟨Nat.le_of_ble_eq_true rfl, Nat.le_of_ble_eq_true rfl⟩ rfl rfl rfl rfl rfl (Nat.le_of_ble_eq_true rfl) dX4_standWhenSpent_16 ⟨Nat.zero_le _, Nat.zero_le _⟩ hPc hDc hF) (fun u H locs hw hP hD hS => ?_)
      obtain ⟨I_4, eI_4⟩ : ∃ x : (Nat → Int32), x = (sX4_stand I) := ⟨_, rfl⟩
      have hP : va_P D vwCl [(h, .inr (4, (oX4 R I_4 L)))] H := by rw [eI_4]; exact hP
      have hD : va_D A [(h, .inr (4, (oX4 R I_4 L)))] := by rw [eI_4]; exact hD
      have hq : (sX4_standWhenSpent I) = I_4 := by clear hP hD hl; subst eI_4; first | (rw [sX4_standWhenSpent, if_pos c_1, if_pos c_2]; done) | simp only [sX4_standWhenSpent, if_pos c_1, if_pos c_2]
      exact jx_vret () hx hb hr hlocks hK hP hD hS (by rw [hq]) trivial dX4_standWhenSpent_19
end
section
theorem jx_ofF {l : Launch} {y : MethodName} {ws ws' : List Cond} {rm : Room} {D : va_G} {tys : List (ClassId × FieldType)} {tA : Nat} {av : List Value} {w0 : va_W} {Qc : (Nat → Prop) → Array Value → State → Outcome → State → Prop} {cc : ByteArray} {maxL : Nat} {ret : Option FieldType}
    (hy : plainFor y = true) (hw : ws = Cond.code y cc maxL ret :: ws') (hent : (lg_sl av).length ≤ maxL)
    (body : ∀ (p : Program) (e : Env) (s : State) (m : MethodId) (below : List Frame) (meth : Method) (c : Code) (A : Nat → Prop) (ls : Array Slot), p.tables.exec = Jvm.exec → c.code = cc → meth.sig.returnType = ret → meth.locks = false → c.maxLocals = maxL → s.vm.findClass y.cls = some m.cls → (∀ w ∈ ws, w.before av.toArray s = true) → va_K D vwCl tys s → va_P D vwCl w0 s.heap → va_D A w0 → (∀ q : Nat, s.heap.size ≤ q → A q) → va_S A s.heap s.heap [] → jx_X tA A s s.heap → lv_has ls maxL (lv_args 0 av) →
      W p l e (headSpec ws rm).room s m av.toArray below meth c s.heap [] 0 0 (MQ below (Qc A) av.toArray s 0 0 A) (F0 m 0 ls [])) : jx_M l y ws rm D tys tA av w0 Qc := by
  intro sz
  refine va_MetF (cc := cc) (maxL := maxL) (ret := ret) hy hw ?_
  intro p e s m args below meth c s₁ B hml hv
  obtain ⟨rfl, hsz, hP, hK, hD0, hX⟩ := hv
  subst hsz
  have hl := lv_entry av (n := maxL) hent
  rw [lg_entry_eq]
  exact body p e s m below meth c _ _ B.exec B.bytes B.returns B.notSynchronized hml (findClass_of_methodNamed B.named) (atoms_spec (ws := ws) B.pre) hK hP (hD0.self (sz := s.heap.size)) (fun q h => Or.inr h) va_S.rf hX hl

def sJ9_floorMod_7cf53 (a0 : Int32) (a1 : Int32) : Int32 := (if 0 ≤ (a0 ^^^ a1) then (a0 - a0 / a1 * a1) else (if (a0 - a0 / a1 * a1) = 0 then (a0 - a0 / a1 * a1) else ((a0 - a0 / a1 * a1) + a1)))
set_option maxHeartbeats 4000000 in
set_option maxRecDepth 100000 in
theorem kJ9_floorMod_7cf53 (l : Launch) (D : va_G) (cI cJ cZ cD : ClassId) (tA : Nat) (a0 : Int32) (a1 : Int32) (hn0 : ¬ a1 = 0) : jx_Ms l yJ9_floorMod_7cf53 wsJ9_floorMod_7cf53 ({ frames := 0, cells := 0, slots := 0, locals := 0 }) D (jT cI cJ cZ cD) tA [.int a0, .int a1] [] (vp_Si (fun r => r = (sJ9_floorMod_7cf53 a0 a1))) := by
  refine jx_ofs (cc := cJ9_floorMod_7cf53) (maxL := 3) (ret := (some .int)) (by decide +kernel) rfl (Nat.le_of_ble_eq_true rfl) ?_
  intro p e s m below meth c A ls hx hb hr hlocks hml hown hts hK hP hD hA hS hX hl
  have hl : lv_has ls 3 [(0, .int a0), (1, .int a1)] := hl
  have hown : s.vm.findClass RJ9 = some m.cls := hown
  refine lv_iload_n hx hb dJ9_floorMod_7cf53_0 rfl (lv_at hl 0 rfl) ?_
  refine lv_iload_n hx hb dJ9_floorMod_7cf53_1 rfl (lv_at hl 1 rfl) ?_
  refine lv_irem hx hb dJ9_floorMod_7cf53_2 hn0 ?_
  refine lv_topi (fun v_1 ev_1 => ?_)
  refine lv_istore_n (lv' := [(2, .int v_1), (0, .int a0), (1, .int a1)]) hx hb dJ9_floorMod_7cf53_3 rfl hl (by decide) rfl (fun ls hl => ?_)
  refine lv_iload_n hx hb dJ9_floorMod_7cf53_4 rfl (lv_at hl 1 rfl) ?_
  refine lv_iload_n hx hb dJ9_floorMod_7cf53_5 rfl (lv_at hl 2 rfl) ?_
  refine lv_ixor hx hb dJ9_floorMod_7cf53_6 ?_
  refine lv_if_ge (tgt := 18) hx hb dJ9_floorMod_7cf53_7 (by decide) (fun c_2 => ?_) (fun c_2 => ?_)
  · skip
    refine lv_iload_n hx hb dJ9_floorMod_7cf53_18 rfl (lv_at hl 0 rfl) ?_
    have hq : (sJ9_floorMod_7cf53 a0 a1) = v_1 := by clear hP hD hl; subst ev_1; first | (rw [sJ9_floorMod_7cf53, if_pos c_2]; done) | simp only [sJ9_floorMod_7cf53, if_pos c_2]
    exact jx_siret hx hb hr hlocks hq.symm dJ9_floorMod_7cf53_19
  · skip
    refine lv_iload_n hx hb dJ9_floorMod_7cf53_10 rfl (lv_at hl 0 rfl) ?_
    refine lv_if_eq (tgt := 18) hx hb dJ9_floorMod_7cf53_11 (by decide) (fun c_3 => ?_) (fun c_3 => ?_)
    · skip
      refine lv_iload_n hx hb dJ9_floorMod_7cf53_18 rfl (lv_at hl 0 rfl) ?_
      have hq : (sJ9_floorMod_7cf53 a0 a1) = v_1 := by clear hP hD hl; subst ev_1; first | (rw [sJ9_floorMod_7cf53, if_neg c_2, if_pos c_3]; done) | simp only [sJ9_floorMod_7cf53, if_neg c_2, if_pos c_3]
      exact jx_siret hx hb hr hlocks hq.symm dJ9_floorMod_7cf53_19
    · skip
      refine lv_iload_n hx hb dJ9_floorMod_7cf53_14 rfl (lv_at hl 0 rfl) ?_
      refine lv_iload_n hx hb dJ9_floorMod_7cf53_15 rfl (lv_at hl 2 rfl) ?_
      refine lv_iadd hx hb dJ9_floorMod_7cf53_16 ?_
      have hq : (sJ9_floorMod_7cf53 a0 a1) = (v_1 + a1) := by clear hP hD hl; subst ev_1; first | (rw [sJ9_floorMod_7cf53, if_neg c_2, if_neg c_3]; done) | simp only [sJ9_floorMod_7cf53, if_neg c_2, if_neg c_3]
      exact jx_siret hx hb hr hlocks hq.symm dJ9_floorMod_7cf53_17

def sJ9_floorDiv_f86c9 (a0 : Int64) (a1 : Int64) : Int64 := (if (0 : Int64) ≤ (a0 ^^^ a1) then (a0 / a1) else (if ((a0 / a1) * a1) = a0 then (a0 / a1) else ((a0 / a1) - (1 : Int64))))
set_option maxHeartbeats 4000000 in
set_option maxRecDepth 100000 in
theorem kJ9_floorDiv_f86c9 (l : Launch) (D : va_G) (cI cJ cZ cD : ClassId) (tA : Nat) (a0 : Int64) (a1 : Int64) (hn0 : ¬ a1 = 0) : jx_Ms l yJ9_floorDiv_f86c9 wsJ9_floorDiv_f86c9 ({ frames := 0, cells := 0, slots := 0, locals := 0 }) D (jT cI cJ cZ cD) tA [.long a0, .long a1] [] (vp_Sl (fun r => r = (sJ9_floorDiv_f86c9 a0 a1))) := by
  refine jx_ofs (cc := cJ9_floorDiv_f86c9) (maxL := 6) (ret := (some .long)) (by decide +kernel) rfl (Nat.le_of_ble_eq_true rfl) ?_
  intro p e s m below meth c A ls hx hb hr hlocks hml hown hts hK hP hD hA hS hX hl
  have hl : lv_has ls 6 [(0, .long a0), (2, .long a1)] := hl
  have hown : s.vm.findClass RJ9 = some m.cls := hown
  refine lv_lload_n hx hb dJ9_floorDiv_f86c9_0 rfl (lv_at hl 0 rfl) ?_
  refine lv_lload_n hx hb dJ9_floorDiv_f86c9_1 rfl (lv_at hl 1 rfl) ?_
  refine lv_ldiv hx hb dJ9_floorDiv_f86c9_2 hn0 ?_
  refine lv_topl (fun v_1 ev_1 => ?_)
  refine lv_lstore (lv' := [(4, .long v_1), (0, .long a0), (2, .long a1)]) hx hb dJ9_floorDiv_f86c9_3 hl (by decide) rfl (fun ls hl => ?_)
  refine lv_lload_n hx hb dJ9_floorDiv_f86c9_5 rfl (lv_at hl 1 rfl) ?_
  refine lv_lload_n hx hb dJ9_floorDiv_f86c9_6 rfl (lv_at hl 2 rfl) ?_
  refine lv_lxor hx hb dJ9_floorDiv_f86c9_7 ?_
  refine lv_lconst (v := 0) hx hb dJ9_floorDiv_f86c9_8 (by decide) ?_
  refine jx_l_ge (tgt := 27) hx hb dJ9_floorDiv_f86c9_9 dJ9_floorDiv_f86c9_10 (by decide) (fun c_2 => ?_) (fun c_2 => ?_)
  · skip
    refine lv_lload hx hb dJ9_floorDiv_f86c9_27 (lv_at hl 0 rfl) ?_
    have hq : (sJ9_floorDiv_f86c9 a0 a1) = v_1 := by clear hP hD hl; subst ev_1; first | (rw [sJ9_floorDiv_f86c9, if_pos c_2]; done) | simp only [sJ9_floorDiv_f86c9, if_pos c_2]
    exact jx_slret hx hb hr hlocks hq.symm dJ9_floorDiv_f86c9_29
  · skip
    refine lv_lload hx hb dJ9_floorDiv_f86c9_13 (lv_at hl 0 rfl) ?_
    refine lv_lload_n hx hb dJ9_floorDiv_f86c9_15 rfl (lv_at hl 2 rfl) ?_
    refine lv_lmul hx hb dJ9_floorDiv_f86c9_16 ?_
    refine lv_lload_n hx hb dJ9_floorDiv_f86c9_17 rfl (lv_at hl 1 rfl) ?_
    refine jx_l_eq (tgt := 27) hx hb dJ9_floorDiv_f86c9_18 dJ9_floorDiv_f86c9_19 (by decide) (fun c_3 => ?_) (fun c_3 => ?_)
    · skip
      refine lv_lload hx hb dJ9_floorDiv_f86c9_27 (lv_at hl 0 rfl) ?_
      have hq : (sJ9_floorDiv_f86c9 a0 a1) = v_1 := by clear hP hD hl; subst ev_1; first | (rw [sJ9_floorDiv_f86c9, if_neg c_2, if_pos c_3]; done) | simp only [sJ9_floorDiv_f86c9, if_neg c_2, if_pos c_3]
      exact jx_slret hx hb hr hlocks hq.symm dJ9_floorDiv_f86c9_29
    · skip
      refine lv_lload hx hb dJ9_floorDiv_f86c9_22 (lv_at hl 0 rfl) ?_
      refine lv_lconst (v := 1) hx hb dJ9_floorDiv_f86c9_24 (by decide) ?_
      refine lv_lsub hx hb dJ9_floorDiv_f86c9_25 ?_
      have hq : (sJ9_floorDiv_f86c9 a0 a1) = (v_1 - (1 : Int64)) := by clear hP hD hl; subst ev_1; first | (rw [sJ9_floorDiv_f86c9, if_neg c_2, if_neg c_3]; done) | simp only [sJ9_floorDiv_f86c9, if_neg c_2, if_neg c_3]
      exact jx_slret hx hb hr hlocks hq.symm dJ9_floorDiv_f86c9_26

theorem jx_bm32 {z : Int} (h1 : -2147483648 ≤ z) (h2 : z < 2147483648) : z.bmod (2 ^ 32) = z := Int.bmod_eq_of_le (by omega) (by omega)
theorem jx_bm64 {z : Int} (h1 : -9223372036854775808 ≤ z) (h2 : z < 9223372036854775808) : z.bmod (2 ^ 64) = z := Int.bmod_eq_of_le (by omega) (by omega)
theorem jx_rg32 (x : Int32) : -2147483648 ≤ x.toInt ∧ x.toInt < 2147483648 := ⟨by have := x.le_toInt; omega, by have := x.toInt_lt; omega⟩
theorem jx_rg64 (x : Int64) : -9223372036854775808 ≤ x.toInt ∧ x.toInt < 9223372036854775808 := ⟨by have := x.le_toInt; omega, by have := x.toInt_lt; omega⟩
theorem jx_td (a : Int) {b : Int} (hb : 0 < b) : a.tdiv b = if 0 ≤ a then a / b else -((-a) / b) := by
  split
  · rename_i h
    exact Int.tdiv_eq_ediv_of_nonneg h
  · rename_i h
    have h2 := Int.neg_tdiv (-a) b
    rw [Int.neg_neg] at h2
    rw [h2, Int.tdiv_eq_ediv_of_nonneg (by omega)]
theorem jx_rem64 (x : Int32) : (x - x / 64 * 64).toInt = x.toInt - x.toInt.tdiv 64 * 64 := by
  obtain ⟨a, b⟩ := jx_rg32 x
  have hd : (x / 64).toInt = x.toInt.tdiv 64 := Int32.toInt_div_of_ne_right x 64 (by decide)
  have ht := jx_td x.toInt (b := 64) (by omega)
  have hm : (x / 64 * 64).toInt = x.toInt.tdiv 64 * 64 := by
    rw [Int32.toInt_mul, hd, show (64 : Int32).toInt = 64 from rfl]
    exact jx_bm32 (by split at ht <;> omega) (by split at ht <;> omega)
  rw [Int32.toInt_sub, hm]
  exact jx_bm32 (by split at ht <;> omega) (by split at ht <;> omega)
theorem jx_xor64 (x : Int32) : 0 ≤ x ^^^ 64 ↔ 0 ≤ x.toInt := by
  have h1 : ∀ y : Int32, 0 ≤ y ↔ y.toBitVec.msb = false := fun y => by
    rw [Int32.le_iff_toInt_le, BitVec.msb_eq_toInt]
    show 0 ≤ y.toBitVec.toInt ↔ _
    simp
  rw [h1]
  have h2 : (x ^^^ 64).toBitVec.msb = x.toBitVec.msb := by
    show (x.toBitVec ^^^ (64 : Int32).toBitVec).msb = _
    rw [BitVec.msb_xor, show (64 : Int32).toBitVec.msb = false from by decide]
    simp
  rw [h2, ← h1, Int32.le_iff_toInt_le]
  exact Iff.rfl
theorem jx_fm (x : Int32) : (sJ9_floorMod_7cf53 x 64).toInt = x.toInt % 64 := by
  obtain ⟨a, b⟩ := jx_rg32 x
  have ht := jx_td x.toInt (b := 64) (by omega)
  have hr := jx_rem64 x
  unfold sJ9_floorMod_7cf53
  split
  · rename_i h
    rw [jx_xor64] at h
    rw [hr]
    split at ht <;> omega
  · rename_i h
    rw [jx_xor64] at h
    split
    · rename_i h2
      rw [h2] at hr
      rw [h2]
      have h3 : (0 : Int32).toInt = 0 := rfl
      split at ht <;> omega
    · rename_i h2
      have h3 : (x - x / 64 * 64).toInt ≠ 0 := fun z => h2 (Int32.toInt_inj.mp z)
      rw [Int32.toInt_add, hr, show (64 : Int32).toInt = 64 from rfl]
      rw [hr] at h3
      rw [jx_bm32 (by split at ht <;> omega) (by split at ht <;> omega)]
      split at ht <;> omega
theorem jx_fm64 (x : Int32) : vp_in (sJ9_floorMod_7cf53 x 64) 64 := vp_in_iff.mpr (by rw [jx_fm]; omega)
end
section
def sX0_quarters (a0 : Int32) : Int32 := (if a0 ≤ 0 then (0 : Int32) else ((4000 : Int32) / a0))
set_option maxHeartbeats 4000000 in
set_option maxRecDepth 100000 in
theorem kX0_quarters (l : Launch) (D : va_G) (cI cJ cZ cD : ClassId) (tA : Nat) (a0 : Int32) : jx_Ms l yX0_quarters wsX0_quarters ({ frames := 0, cells := 0, slots := 0, locals := 0 }) D (jT cI cJ cZ cD) tA [.int a0] [] (vp_Si (fun r => r = (sX0_quarters a0))) := by
  refine jx_ofs (cc := cX0_quarters) (maxL := 1) (ret := (some .int)) (by decide +kernel) rfl (Nat.le_of_ble_eq_true rfl) ?_
  intro p e s m below meth c A ls hx hb hr hlocks hml hown hts hK hP hD hA hS hX hl
  have hl : lv_has ls 1 [(0, .int a0)] := hl
  have hown : s.vm.findClass RX0 = some m.cls := hown
  refine lv_iload_n hx hb dX0_quarters_0 rfl (lv_at hl 0 rfl) ?_
  refine lv_if_le (tgt := 12) hx hb dX0_quarters_1 (by decide) (fun c_1 => ?_) (fun c_1 => ?_)
  · skip
    refine lv_iconst (v := 0) hx hb dX0_quarters_12 (by decide) ?_
    have hq : (sX0_quarters a0) = (0 : Int32) := by first | (rw [sX0_quarters, if_pos c_1]; done) | simp only [sX0_quarters, if_pos c_1]
    exact jx_siret hx hb hr hlocks hq.symm dX0_quarters_13
  · skip
    refine lv_sipush (v := 4000) hx hb dX0_quarters_4 (by decide) ?_
    refine lv_iload_n hx hb dX0_quarters_7 rfl (lv_at hl 0 rfl) ?_
    refine lv_idiv hx hb dX0_quarters_8 (fun z => c_1 (by rw [z]; decide)) ?_
    refine lv_goto (tgt := 13) hx hb dX0_quarters_9 (by decide) ?_
    have hq : (sX0_quarters a0) = ((4000 : Int32) / a0) := by first | (rw [sX0_quarters, if_neg c_1]; done) | simp only [sX0_quarters, if_neg c_1]
    exact jx_siret hx hb hr hlocks hq.symm dX0_quarters_13

def sX0_slotOf (I : Nat → Int32) (a0 : Int32) : Int32 := (sJ9_floorMod_7cf53 (((I 3) - (1 : Int32)) - a0) (64 : Int32))
set_option maxRecDepth 20000 in
theorem iX0_slotOf_0 : ∀ w ∈ wsX00, w ∈ wsX0_slotOf := by decide +kernel
set_option maxHeartbeats 4000000 in
set_option maxRecDepth 100000 in
theorem kX0_slotOf (l : Launch) (D : va_G) (cI cJ cZ cD : ClassId) (tA : Nat) (h : Nat) (R : Nat → Nat) (I : Nat → Int32) (L : Nat → Int64) (a0 : Int32) : jx_Ms l yX0_slotOf wsX0_slotOf ({ frames := 1, cells := 0, slots := 0, locals := 22 }) D (jT cI cJ cZ cD) tA [.ref h, .int a0] [(h, .inr (0, (oX0 R I L)))] (vp_Si (fun r => r = (sX0_slotOf I a0))) := by
  refine jx_ofs (cc := cX0_slotOf) (maxL := 2) (ret := (some .int)) (by decide +kernel) rfl (Nat.le_of_ble_eq_true rfl) ?_
  intro p e s m below meth c A ls hx hb hr hlocks hml hown hts hK hP hD hA hS hX hl
  have hl : lv_has ls 2 [(0, .ref h), (1, .int a0)] := hl
  have hown : s.vm.findClass RX0 = some m.cls := hown
  have hk21 := hts (.fieldLink RX0 21 "LoomDesk$Cloth" "next" "I") (by decide +kernel)
  refine lv_aload_n hx hb dX0_slotOf_0 rfl (lv_at hl 0 rfl) ?_
  refine jx_get (v := .int (I 3)) hx hb hts iX0_slotOf_0 hown hK hP 0 rfl rfl 3 (by decide) hk21 rfl rfl dX0_slotOf_1 ?_
  refine lv_iconst (v := 1) hx hb dX0_slotOf_4 (by decide) ?_
  refine lv_isub hx hb dX0_slotOf_5 ?_
  refine lv_iload_n hx hb dX0_slotOf_6 rfl (lv_at hl 1 rfl) ?_
  refine lv_isub hx hb dX0_slotOf_7 ?_
  refine lv_bipush (v := 64) hx hb dX0_slotOf_8 (by decide) ?_
  refine jx_pcalli (wc := []) hP hD hS hA [] rfl (by decide) (fun hPc hDc hF => jx_runSs (As := [.int (((I 3) - (1 : Int32)) - a0), .int (64 : Int32)]) (rest := []) (n := 2) hx hb hml hown hts hK hX hS hl.1 (kJ9_floorMod_7cf53 l D cI cJ cZ cD tA (((I 3) - (1 : Int32)) - a0) (64 : Int32) (by decide)) gX0_slotOf_J9_floorMod_7cf53 rfl rfl rfl (by decide +kernel) ⟨Nat.le_of_ble_eq_true rfl, Nat.le_of_ble_eq_true rfl⟩ rfl rfl (Nat.le_of_ble_eq_true rfl) dX0_slotOf_10 ⟨Nat.zero_le _, Nat.zero_le _⟩ hPc hDc hF) (fun r_1 er_1 => ?_)
  have er_1 : r_1 = (sJ9_floorMod_7cf53 (((I 3) - (1 : Int32)) - a0) (64 : Int32)) := er_1
  have hq : (sX0_slotOf I a0) = r_1 := by clear hP hD hl; subst er_1; rfl
  exact jx_siret hx hb hr hlocks hq.symm dX0_slotOf_13

def sX0_beatUp (I : Nat → Int32) (L : Nat → Int64) (f0 : Nat → Int32) (f1 : Nat → Int32) (f2 : Nat → Int32) (a0 : Int32) (a1 : Int32) (a2 : Int32) : (Nat → Int32) × (Nat → Int64) × (Nat → Int32) × (Nat → Int32) × (Nat → Int32) := ((upd (upd I 3 (sJ9_floorMod_7cf53 ((sJ9_floorMod_7cf53 (I 3) (64 : Int32)) + (1 : Int32)) (64 : Int32))) 4 (if (64 : Int32) < ((I 4) + (1 : Int32)) then (64 : Int32) else ((I 4) + (1 : Int32)))), (vp_updL (vp_updL L 5 ((L 5) + (1 : Int64))) 6 ((L 6) + (sX0_quarters a2).toInt64)), (upd f0 (sJ9_floorMod_7cf53 (I 3) (64 : Int32)).toNatClampNeg a0), (upd f1 (sJ9_floorMod_7cf53 (I 3) (64 : Int32)).toNatClampNeg a1), (upd f2 (sJ9_floorMod_7cf53 (I 3) (64 : Int32)).toNatClampNeg a2))
set_option maxRecDepth 20000 in
theorem iX0_beatUp_0 : ∀ w ∈ wsX00, w ∈ wsX0_beatUp := by decide +kernel
set_option maxHeartbeats 4000000 in
set_option maxRecDepth 100000 in
theorem kX0_beatUp (l : Launch) (D : va_G) (cI cJ cZ cD : ClassId) (tA : Nat) (h : Nat) (R : Nat → Nat) (I : Nat → Int32) (L : Nat → Int64) (f0 : Nat → Int32) (f1 : Nat → Int32) (f2 : Nat → Int32) (a0 : Int32) (a1 : Int32) (a2 : Int32) : jx_M l yX0_beatUp wsX0_beatUp ({ frames := 1, cells := 0, slots := 0, locals := 22 }) D (jT cI cJ cZ cD) tA [.ref h, .int a0, .int a1, .int a2] [(h, .inr (0, (oX0 R I L))), ((R 0), .inl (cI, 64, .inl f0)), ((R 1), .inl (cI, 64, .inl f1)), ((R 2), .inl (cI, 64, .inl f2))] (jx_Qv D (jT cI cJ cZ cD) (fun (_ : Unit) => True) (fun _ => [(h, .inr (0, (oX0 R (sX0_beatUp I L f0 f1 f2 a0 a1 a2).1 (sX0_beatUp I L f0 f1 f2 a0 a1 a2).2.1))), ((R 0), .inl (cI, 64, .inl ((sX0_beatUp I L f0 f1 f2 a0 a1 a2).2.2.1))), ((R 1), .inl (cI, 64, .inl ((sX0_beatUp I L f0 f1 f2 a0 a1 a2).2.2.2.1))), ((R 2), .inl (cI, 64, .inl ((sX0_beatUp I L f0 f1 f2 a0 a1 a2).2.2.2.2)))])) := by
  refine jx_of (cc := cX0_beatUp) (maxL := 5) (ret := none) (by decide +kernel) rfl (Nat.le_of_ble_eq_true rfl) ?_
  intro p e s m below meth c A ls hx hb hr hlocks hml hown hts hK hP hD hA hS hX hl
  have hl : lv_has ls 5 [(0, .ref h), (1, .int a0), (2, .int a1), (3, .int a2)] := hl
  have hown : s.vm.findClass RX0 = some m.cls := hown
  have hk11 := hts (.fieldLink RX0 11 "LoomDesk$Cloth" "sheds" "[I") (by decide +kernel)
  have hk15 := hts (.fieldLink RX0 15 "LoomDesk$Cloth" "carriers" "[I") (by decide +kernel)
  have hk18 := hts (.fieldLink RX0 18 "LoomDesk$Cloth" "densities" "[I") (by decide +kernel)
  have hk21 := hts (.fieldLink RX0 21 "LoomDesk$Cloth" "next" "I") (by decide +kernel)
  have hk25 := hts (.fieldLink RX0 25 "LoomDesk$Cloth" "kept" "I") (by decide +kernel)
  have hk28 := hts (.fieldLink RX0 28 "LoomDesk$Cloth" "beaten" "J") (by decide +kernel)
  have hk32 := hts (.fieldLink RX0 32 "LoomDesk$Cloth" "taken" "J") (by decide +kernel)
  refine lv_aload_n hx hb dX0_beatUp_0 rfl (lv_at hl 0 rfl) ?_
  refine jx_get (v := .int (I 3)) hx hb hts iX0_beatUp_0 hown hK hP 0 rfl rfl 3 (by decide) hk21 rfl rfl dX0_beatUp_1 ?_
  refine lv_bipush (v := 64) hx hb dX0_beatUp_4 (by decide) ?_
  refine jx_pcalli (wc := []) hP hD hS hA [] rfl (by decide) (fun hPc hDc hF => jx_runSs (As := [.int (I 3), .int (64 : Int32)]) (rest := []) (n := 2) hx hb hml hown hts hK hX hS hl.1 (kJ9_floorMod_7cf53 l D cI cJ cZ cD tA (I 3) (64 : Int32) (by decide)) gX0_beatUp_J9_floorMod_7cf53 rfl rfl rfl (by decide +kernel) ⟨Nat.le_of_ble_eq_true rfl, Nat.le_of_ble_eq_true rfl⟩ rfl rfl (Nat.le_of_ble_eq_true rfl) dX0_beatUp_6 ⟨Nat.zero_le _, Nat.zero_le _⟩ hPc hDc hF) (fun r_1 er_1 => ?_)
  have er_1 : r_1 = (sJ9_floorMod_7cf53 (I 3) (64 : Int32)) := er_1
  refine lv_istore (lv' := [(4, .int r_1), (0, .ref h), (1, .int a0), (2, .int a1), (3, .int a2)]) hx hb dX0_beatUp_9 hl (by decide) rfl (fun ls hl => ?_)
  refine lv_aload_n hx hb dX0_beatUp_11 rfl (lv_at hl 1 rfl) ?_
  refine jx_get (v := .ref (R 0)) hx hb hts iX0_beatUp_0 hown hK hP 0 rfl rfl 0 (by decide) hk11 rfl rfl dX0_beatUp_12 ?_
  refine lv_iload hx hb dX0_beatUp_15 (lv_at hl 0 rfl) ?_
  refine lv_iload_n hx hb dX0_beatUp_17 rfl (lv_at hl 2 rfl) ?_
  refine jx_iast (w2 := [(h, .inr (0, (oX0 R I L))), ((R 0), .inl (cI, 64, .inl (upd f0 r_1.toNatClampNeg a0))), ((R 1), .inl (cI, 64, .inl f1)), ((R 2), .inl (cI, 64, .inl f2))]) hx hb hK hP hD hS 1 0 rfl rfl (by clear hP hD hl; subst er_1; exact jx_fm64 _) dX0_beatUp_18 rfl (fun H locs hP hD hS => ?_)
  refine lv_aload_n hx hb dX0_beatUp_19 rfl (lv_at hl 1 rfl) ?_
  refine jx_get (v := .ref (R 1)) hx hb hts iX0_beatUp_0 hown hK hP 0 rfl rfl 1 (by decide) hk15 rfl rfl dX0_beatUp_20 ?_
  refine lv_iload hx hb dX0_beatUp_23 (lv_at hl 0 rfl) ?_
  refine lv_iload_n hx hb dX0_beatUp_25 rfl (lv_at hl 3 rfl) ?_
  refine jx_iast (w2 := [(h, .inr (0, (oX0 R I L))), ((R 0), .inl (cI, 64, .inl (upd f0 r_1.toNatClampNeg a0))), ((R 1), .inl (cI, 64, .inl (upd f1 r_1.toNatClampNeg a1))), ((R 2), .inl (cI, 64, .inl f2))]) hx hb hK hP hD hS 2 0 rfl rfl (by clear hP hD hl; subst er_1; exact jx_fm64 _) dX0_beatUp_26 rfl (fun H locs hP hD hS => ?_)
  refine lv_aload_n hx hb dX0_beatUp_27 rfl (lv_at hl 1 rfl) ?_
  refine jx_get (v := .ref (R 2)) hx hb hts iX0_beatUp_0 hown hK hP 0 rfl rfl 2 (by decide) hk18 rfl rfl dX0_beatUp_28 ?_
  refine lv_iload hx hb dX0_beatUp_31 (lv_at hl 0 rfl) ?_
  refine lv_iload_n hx hb dX0_beatUp_33 rfl (lv_at hl 4 rfl) ?_
  refine jx_iast (w2 := [(h, .inr (0, (oX0 R I L))), ((R 0), .inl (cI, 64, .inl (upd f0 r_1.toNatClampNeg a0))), ((R 1), .inl (cI, 64, .inl (upd f1 r_1.toNatClampNeg a1))), ((R 2), .inl (cI, 64, .inl (upd f2 r_1.toNatClampNeg a2)))]) hx hb hK hP hD hS 3 0 rfl rfl (by clear hP hD hl; subst er_1; exact jx_fm64 _) dX0_beatUp_34 rfl (fun H locs hP hD hS => ?_)
  refine lv_aload_n hx hb dX0_beatUp_35 rfl (lv_at hl 1 rfl) ?_
  refine lv_iload hx hb dX0_beatUp_36 (lv_at hl 0 rfl) ?_
  refine lv_iconst (v := 1) hx hb dX0_beatUp_38 (by decide) ?_
  refine lv_iadd hx hb dX0_beatUp_39 ?_
  refine lv_bipush (v := 64) hx hb dX0_beatUp_40 (by decide) ?_
  refine jx_pcalli (wc := []) hP hD hS hA [] rfl (by decide) (fun hPc hDc hF => jx_runSs (As := [.int (r_1 + (1 : Int32)), .int (64 : Int32)]) (rest := [.ref h]) (n := 2) hx hb hml hown hts hK hX hS hl.1 (kJ9_floorMod_7cf53 l D cI cJ cZ cD tA (r_1 + (1 : Int32)) (64 : Int32) (by decide)) gX0_beatUp_J9_floorMod_7cf53 rfl rfl rfl (by decide +kernel) ⟨Nat.le_of_ble_eq_true rfl, Nat.le_of_ble_eq_true rfl⟩ rfl rfl (Nat.le_of_ble_eq_true rfl) dX0_beatUp_42 ⟨Nat.zero_le _, Nat.zero_le _⟩ hPc hDc hF) (fun r_2 er_2 => ?_)
  have er_2 : r_2 = (sJ9_floorMod_7cf53 (r_1 + (1 : Int32)) (64 : Int32)) := er_2
  refine jx_put (w2 := [(h, .inr (0, (oX0 R (upd I 3 r_2) L))), ((R 0), .inl (cI, 64, .inl (upd f0 r_1.toNatClampNeg a0))), ((R 1), .inl (cI, 64, .inl (upd f1 r_1.toNatClampNeg a1))), ((R 2), .inl (cI, 64, .inl (upd f2 r_1.toNatClampNeg a2)))]) hx hb hts iX0_beatUp_0 tyX0 tyX0_ok nmX0 hown hK hP hD hS 0 rfl rfl 3 (by decide) hk21 rfl rfl rfl rfl (Nat.le_of_ble_eq_true rfl) dX0_beatUp_45 rfl (fun H locs hP hD hS => ?_)
  refine lv_aload_n hx hb dX0_beatUp_48 rfl (lv_at hl 1 rfl) ?_
  refine lv_aload_n hx hb dX0_beatUp_49 rfl (lv_at hl 1 rfl) ?_
  refine jx_get (v := .int (I 4)) hx hb hts iX0_beatUp_0 hown hK hP 0 rfl rfl 4 (by decide) hk25 rfl rfl dX0_beatUp_50 ?_
  refine lv_iconst (v := 1) hx hb dX0_beatUp_53 (by decide) ?_
  refine lv_iadd hx hb dX0_beatUp_54 ?_
  refine lv_bipush (v := 64) hx hb dX0_beatUp_55 (by decide) ?_
  refine va_mmin hx hb (hml.trans hl.1.symm) hown (hts (.methodLink RX0 41 Lib.Math.min.name) (by decide +kernel)) (hts (.static Lib.Math.min.name) (by decide +kernel)) (hts (.initialized "java/lang/Math") (by decide +kernel)) (hts (.code Lib.Math.min.name Lib.Math.min.code 2 (some .int)) (by decide +kernel)) (Nat.le_of_ble_eq_true rfl) (Nat.le_of_ble_eq_true rfl) (Nat.zero_le _) (Nat.zero_le _) dX0_beatUp_57 ?_
  refine lv_topi (fun v_3 ev_3 => ?_)
  refine jx_put (w2 := [(h, .inr (0, (oX0 R (upd (upd I 3 r_2) 4 v_3) L))), ((R 0), .inl (cI, 64, .inl (upd f0 r_1.toNatClampNeg a0))), ((R 1), .inl (cI, 64, .inl (upd f1 r_1.toNatClampNeg a1))), ((R 2), .inl (cI, 64, .inl (upd f2 r_1.toNatClampNeg a2)))]) hx hb hts iX0_beatUp_0 tyX0 tyX0_ok nmX0 hown hK hP hD hS 0 rfl rfl 4 (by decide) hk25 rfl rfl rfl rfl (Nat.le_of_ble_eq_true rfl) dX0_beatUp_60 rfl (fun H locs hP hD hS => ?_)
  refine lv_aload_n hx hb dX0_beatUp_63 rfl (lv_at hl 1 rfl) ?_
  refine lv_dup hx hb dX0_beatUp_64 rfl ?_
  refine jx_get (v := .long (L 5)) hx hb hts iX0_beatUp_0 hown hK hP 0 rfl rfl 5 (by decide) hk28 rfl rfl dX0_beatUp_65 ?_
  refine lv_lconst (v := 1) hx hb dX0_beatUp_68 (by decide) ?_
  refine lv_ladd hx hb dX0_beatUp_69 ?_
  refine lv_topl (fun v_4 ev_4 => ?_)
  refine jx_put (w2 := [(h, .inr (0, (oX0 R (upd (upd I 3 r_2) 4 v_3) (vp_updL L 5 v_4)))), ((R 0), .inl (cI, 64, .inl (upd f0 r_1.toNatClampNeg a0))), ((R 1), .inl (cI, 64, .inl (upd f1 r_1.toNatClampNeg a1))), ((R 2), .inl (cI, 64, .inl (upd f2 r_1.toNatClampNeg a2)))]) hx hb hts iX0_beatUp_0 tyX0 tyX0_ok nmX0 hown hK hP hD hS 0 rfl rfl 5 (by decide) hk28 rfl rfl rfl rfl (Nat.le_of_ble_eq_true rfl) dX0_beatUp_70 rfl (fun H locs hP hD hS => ?_)
  refine lv_aload_n hx hb dX0_beatUp_73 rfl (lv_at hl 1 rfl) ?_
  refine lv_dup hx hb dX0_beatUp_74 rfl ?_
  refine jx_get (v := .long (L 6)) hx hb hts iX0_beatUp_0 hown hK hP 0 rfl rfl 6 (by decide) hk32 rfl rfl dX0_beatUp_75 ?_
  refine lv_iload_n hx hb dX0_beatUp_78 rfl (lv_at hl 4 rfl) ?_
  refine jx_pcalli (wc := []) hP hD hS hA [] rfl (by decide) (fun hPc hDc hF => jx_runSs (As := [.int a2]) (rest := [.long (L 6), .ref h]) (n := 1) hx hb hml hown hts hK hX hS hl.1 (kX0_quarters l D cI cJ cZ cD tA a2) gX0_beatUp_X0_quarters rfl rfl rfl (by decide +kernel) ⟨Nat.le_of_ble_eq_true rfl, Nat.le_of_ble_eq_true rfl⟩ rfl rfl (Nat.le_of_ble_eq_true rfl) dX0_beatUp_79 ⟨Nat.zero_le _, Nat.zero_le _⟩ hPc hDc hF) (fun r_5 er_5 => ?_)
  have er_5 : r_5 = (sX0_quarters a2) := er_5
  refine lv_i2l hx hb dX0_beatUp_82 rfl ?_
  refine lv_ladd hx hb dX0_beatUp_83 ?_
  refine lv_topl (fun v_6 ev_6 => ?_)
  refine jx_put (w2 := [(h, .inr (0, (oX0 R (upd (upd I 3 r_2) 4 v_3) (vp_updL (vp_updL L 5 v_4) 6 v_6)))), ((R 0), .inl (cI, 64, .inl (upd f0 r_1.toNatClampNeg a0))), ((R 1), .inl (cI, 64, .inl (upd f1 r_1.toNatClampNeg a1))), ((R 2), .inl (cI, 64, .inl (upd f2 r_1.toNatClampNeg a2)))]) hx hb hts iX0_beatUp_0 tyX0 tyX0_ok nmX0 hown hK hP hD hS 0 rfl rfl 6 (by decide) hk32 rfl rfl rfl rfl (Nat.le_of_ble_eq_true rfl) dX0_beatUp_84 rfl (fun H locs hP hD hS => ?_)
  have hq : (sX0_beatUp I L f0 f1 f2 a0 a1 a2) = ((upd (upd I 3 r_2) 4 v_3), (vp_updL (vp_updL L 5 v_4) 6 v_6), (upd f0 r_1.toNatClampNeg a0), (upd f1 r_1.toNatClampNeg a1), (upd f2 r_1.toNatClampNeg a2)) := by clear hP hD hl; subst ev_6; subst er_5; subst ev_4; subst ev_3; subst er_2; subst er_1; rfl
  exact jx_vret () hx hb hr hlocks hK hP hD hS (by rw [hq]) trivial dX0_beatUp_87

def sX0_takeOff (I : Nat → Int32) (L : Nat → Int64) (f2 : Nat → Int32) : Int32 × (Nat → Int32) × (Nat → Int64) := (if 0 < (I 4) then ((1 : Int32), (upd (upd I 3 (sX0_slotOf I (0 : Int32))) 4 ((I 4) - (1 : Int32))), (vp_updL (vp_updL L 5 ((L 5) - (1 : Int64))) 6 ((L 6) - (sX0_quarters (f2 (sX0_slotOf I (0 : Int32)).toNatClampNeg)).toInt64))) else ((0 : Int32), I, L))
set_option maxRecDepth 20000 in
theorem iX0_takeOff_0 : ∀ w ∈ wsX00, w ∈ wsX0_takeOff := by decide +kernel
set_option maxHeartbeats 4000000 in
set_option maxRecDepth 100000 in
theorem kX0_takeOff (l : Launch) (D : va_G) (cI cJ cZ cD : ClassId) (tA : Nat) (h : Nat) (R : Nat → Nat) (I : Nat → Int32) (L : Nat → Int64) (f0 : Nat → Int32) (f1 : Nat → Int32) (f2 : Nat → Int32) : jx_M l yX0_takeOff wsX0_takeOff ({ frames := 2, cells := 0, slots := 0, locals := 43 }) D (jT cI cJ cZ cD) tA [.ref h] [(h, .inr (0, (oX0 R I L))), ((R 0), .inl (cI, 64, .inl f0)), ((R 1), .inl (cI, 64, .inl f1)), ((R 2), .inl (cI, 64, .inl f2))] (jx_Qi D (jT cI cJ cZ cD) (fun r (_ : Unit) => r = (sX0_takeOff I L f2).1) (fun _ => [(h, .inr (0, (oX0 R (sX0_takeOff I L f2).2.1 (sX0_takeOff I L f2).2.2))), ((R 0), .inl (cI, 64, .inl f0)), ((R 1), .inl (cI, 64, .inl f1)), ((R 2), .inl (cI, 64, .inl f2))])) := by
  refine jx_of (cc := cX0_takeOff) (maxL := 1) (ret := (some .boolean)) (by decide +kernel) rfl (Nat.le_of_ble_eq_true rfl) ?_
  intro p e s m below meth c A ls hx hb hr hlocks hml hown hts hK hP hD hA hS hX hl
  have hl : lv_has ls 1 [(0, .ref h)] := hl
  have hown : s.vm.findClass RX0 = some m.cls := hown
  have hk18 := hts (.fieldLink RX0 18 "LoomDesk$Cloth" "densities" "[I") (by decide +kernel)
  have hk21 := hts (.fieldLink RX0 21 "LoomDesk$Cloth" "next" "I") (by decide +kernel)
  have hk25 := hts (.fieldLink RX0 25 "LoomDesk$Cloth" "kept" "I") (by decide +kernel)
  have hk28 := hts (.fieldLink RX0 28 "LoomDesk$Cloth" "beaten" "J") (by decide +kernel)
  have hk32 := hts (.fieldLink RX0 32 "LoomDesk$Cloth" "taken" "J") (by decide +kernel)
  refine lv_aload_n hx hb dX0_takeOff_0 rfl (lv_at hl 0 rfl) ?_
  refine jx_get (v := .int (I 4)) hx hb hts iX0_takeOff_0 hown hK hP 0 rfl rfl 4 (by decide) hk25 rfl rfl dX0_takeOff_1 ?_
  refine lv_if_gt (tgt := 9) hx hb dX0_takeOff_4 (by decide) (fun c_1 => ?_) (fun c_1 => ?_)
  · skip
    refine lv_aload_n hx hb dX0_takeOff_9 rfl (lv_at hl 0 rfl) ?_
    refine lv_aload_n hx hb dX0_takeOff_10 rfl (lv_at hl 0 rfl) ?_
    refine lv_iconst (v := 0) hx hb dX0_takeOff_11 (by decide) ?_
    refine jx_pcalli (wc := [(h, .inr (0, (oX0 R I L)))]) hP hD hS hA [0] rfl (by decide) (fun hPc hDc hF => jx_runVs (As := [.int (0 : Int32)]) (rest := [.ref h]) (n := 1) (ci := 0) (q0 := 0) hx hb hml hown hts hK hX hS hl.1 (kX0_slotOf l D cI cJ cZ cD tA h R I L (0 : Int32)) gX0_takeOff_X0_slotOf rfl rfl rfl (by decide +kernel) ⟨Nat.le_of_ble_eq_true rfl, Nat.le_of_ble_eq_true rfl⟩ rfl rfl rfl rfl rfl (Nat.le_of_ble_eq_true rfl) dX0_takeOff_12 ⟨Nat.zero_le _, Nat.zero_le _⟩ hPc hDc hF) (fun r_2 er_2 => ?_)
    have er_2 : r_2 = (sX0_slotOf I (0 : Int32)) := er_2
    refine jx_put (w2 := [(h, .inr (0, (oX0 R (upd I 3 r_2) L))), ((R 0), .inl (cI, 64, .inl f0)), ((R 1), .inl (cI, 64, .inl f1)), ((R 2), .inl (cI, 64, .inl f2))]) hx hb hts iX0_takeOff_0 tyX0 tyX0_ok nmX0 hown hK hP hD hS 0 rfl rfl 3 (by decide) hk21 rfl rfl rfl rfl (Nat.le_of_ble_eq_true rfl) dX0_takeOff_15 rfl (fun H locs hP hD hS => ?_)
    refine lv_aload_n hx hb dX0_takeOff_18 rfl (lv_at hl 0 rfl) ?_
    refine lv_dup hx hb dX0_takeOff_19 rfl ?_
    refine jx_get (v := .int (I 4)) hx hb hts iX0_takeOff_0 hown hK hP 0 rfl rfl 4 (by decide) hk25 rfl rfl dX0_takeOff_20 ?_
    refine lv_iconst (v := 1) hx hb dX0_takeOff_23 (by decide) ?_
    refine lv_isub hx hb dX0_takeOff_24 ?_
    refine lv_topi (fun v_3 ev_3 => ?_)
    refine jx_put (w2 := [(h, .inr (0, (oX0 R (upd (upd I 3 r_2) 4 v_3) L))), ((R 0), .inl (cI, 64, .inl f0)), ((R 1), .inl (cI, 64, .inl f1)), ((R 2), .inl (cI, 64, .inl f2))]) hx hb hts iX0_takeOff_0 tyX0 tyX0_ok nmX0 hown hK hP hD hS 0 rfl rfl 4 (by decide) hk25 rfl rfl rfl rfl (Nat.le_of_ble_eq_true rfl) dX0_takeOff_25 rfl (fun H locs hP hD hS => ?_)
    refine lv_aload_n hx hb dX0_takeOff_28 rfl (lv_at hl 0 rfl) ?_
    refine lv_dup hx hb dX0_takeOff_29 rfl ?_
    refine jx_get (v := .long (L 5)) hx hb hts iX0_takeOff_0 hown hK hP 0 rfl rfl 5 (by decide) hk28 rfl rfl dX0_takeOff_30 ?_
    refine lv_lconst (v := 1) hx hb dX0_takeOff_33 (by decide) ?_
    refine lv_lsub hx hb dX0_takeOff_34 ?_
    refine lv_topl (fun v_4 ev_4 => ?_)
    refine jx_put (w2 := [(h, .inr (0, (oX0 R (upd (upd I 3 r_2) 4 v_3) (vp_updL L 5 v_4)))), ((R 0), .inl (cI, 64, .inl f0)), ((R 1), .inl (cI, 64, .inl f1)), ((R 2), .inl (cI, 64, .inl f2))]) hx hb hts iX0_takeOff_0 tyX0 tyX0_ok nmX0 hown hK hP hD hS 0 rfl rfl 5 (by decide) hk28 rfl rfl rfl rfl (Nat.le_of_ble_eq_true rfl) dX0_takeOff_35 rfl (fun H locs hP hD hS => ?_)
    refine lv_aload_n hx hb dX0_takeOff_38 rfl (lv_at hl 0 rfl) ?_
    refine lv_dup hx hb dX0_takeOff_39 rfl ?_
    refine jx_get (v := .long (L 6)) hx hb hts iX0_takeOff_0 hown hK hP 0 rfl rfl 6 (by decide) hk32 rfl rfl dX0_takeOff_40 ?_
    refine lv_aload_n hx hb dX0_takeOff_43 rfl (lv_at hl 0 rfl) ?_
    refine jx_get (v := .ref (R 2)) hx hb hts iX0_takeOff_0 hown hK hP 0 rfl rfl 2 (by decide) hk18 rfl rfl dX0_takeOff_44 ?_
    refine lv_aload_n hx hb dX0_takeOff_47 rfl (lv_at hl 0 rfl) ?_
    refine jx_get (v := .int r_2) hx hb hts iX0_takeOff_0 hown hK hP 0 rfl rfl 3 (by decide) hk21 rfl rfl dX0_takeOff_48 ?_
    refine va_iald hx hb hK hP 3 0 rfl rfl (by clear hP hD hl; subst ev_4; subst ev_3; subst er_2; exact jx_fm64 _) dX0_takeOff_51 ?_
    refine jx_pcalli (wc := []) hP hD hS hA [] rfl (by decide) (fun hPc hDc hF => jx_runSs (As := [.int (f2 r_2.toNatClampNeg)]) (rest := [.long (L 6), .ref h]) (n := 1) hx hb hml hown hts hK hX hS hl.1 (kX0_quarters l D cI cJ cZ cD tA (f2 r_2.toNatClampNeg)) gX0_takeOff_X0_quarters rfl rfl rfl (by decide +kernel) ⟨Nat.le_of_ble_eq_true rfl, Nat.le_of_ble_eq_true rfl⟩ rfl rfl (Nat.le_of_ble_eq_true rfl) dX0_takeOff_52 ⟨Nat.zero_le _, Nat.zero_le _⟩ hPc hDc hF) (fun r_5 er_5 => ?_)
    have er_5 : r_5 = (sX0_quarters (f2 r_2.toNatClampNeg)) := er_5
    refine lv_i2l hx hb dX0_takeOff_55 rfl ?_
    refine lv_lsub hx hb dX0_takeOff_56 ?_
    refine lv_topl (fun v_6 ev_6 => ?_)
    refine jx_put (w2 := [(h, .inr (0, (oX0 R (upd (upd I 3 r_2) 4 v_3) (vp_updL (vp_updL L 5 v_4) 6 v_6)))), ((R 0), .inl (cI, 64, .inl f0)), ((R 1), .inl (cI, 64, .inl f1)), ((R 2), .inl (cI, 64, .inl f2))]) hx hb hts iX0_takeOff_0 tyX0 tyX0_ok nmX0 hown hK hP hD hS 0 rfl rfl 6 (by decide) hk32 rfl rfl rfl rfl (Nat.le_of_ble_eq_true rfl) dX0_takeOff_57 rfl (fun H locs hP hD hS => ?_)
    refine lv_iconst (v := 1) hx hb dX0_takeOff_60 (by decide) ?_
    have hq : (sX0_takeOff I L f2) = ((1 : Int32), (upd (upd I 3 r_2) 4 v_3), (vp_updL (vp_updL L 5 v_4) 6 v_6)) := by clear hP hD hl; subst ev_6; subst er_5; subst ev_4; subst ev_3; subst er_2; first | (rw [sX0_takeOff, if_pos c_1]; done) | simp only [sX0_takeOff, if_pos c_1]
    exact jx_zret () hx hb hr hlocks hK hP hD hS (by rw [hq]) (by rw [hq]) (Or.inr rfl) dX0_takeOff_61
  · skip
    refine lv_iconst (v := 0) hx hb dX0_takeOff_7 (by decide) ?_
    have hq : (sX0_takeOff I L f2) = ((0 : Int32), I, L) := by first | (rw [sX0_takeOff, if_neg c_1]; done) | simp only [sX0_takeOff, if_neg c_1]
    exact jx_zret () hx hb hr hlocks hK hP hD hS (by rw [hq]) (by rw [hq]) (Or.inl rfl) dX0_takeOff_8

def sX0_forget (I : Nat → Int32) : (Nat → Int32) := (upd I 4 (0 : Int32))
set_option maxRecDepth 20000 in
theorem iX0_forget_0 : ∀ w ∈ wsX00, w ∈ wsX0_forget := by decide +kernel
set_option maxHeartbeats 4000000 in
set_option maxRecDepth 100000 in
theorem kX0_forget (l : Launch) (D : va_G) (cI cJ cZ cD : ClassId) (tA : Nat) (h : Nat) (R : Nat → Nat) (I : Nat → Int32) (L : Nat → Int64) : jx_M l yX0_forget wsX0_forget ({ frames := 0, cells := 0, slots := 0, locals := 0 }) D (jT cI cJ cZ cD) tA [.ref h] [(h, .inr (0, (oX0 R I L)))] (jx_Qv D (jT cI cJ cZ cD) (fun (_ : Unit) => True) (fun _ => [(h, .inr (0, (oX0 R (sX0_forget I) L)))])) := by
  refine jx_of (cc := cX0_forget) (maxL := 1) (ret := none) (by decide +kernel) rfl (Nat.le_of_ble_eq_true rfl) ?_
  intro p e s m below meth c A ls hx hb hr hlocks hml hown hts hK hP hD hA hS hX hl
  have hl : lv_has ls 1 [(0, .ref h)] := hl
  have hown : s.vm.findClass RX0 = some m.cls := hown
  have hk25 := hts (.fieldLink RX0 25 "LoomDesk$Cloth" "kept" "I") (by decide +kernel)
  refine lv_aload_n hx hb dX0_forget_0 rfl (lv_at hl 0 rfl) ?_
  refine lv_iconst (v := 0) hx hb dX0_forget_1 (by decide) ?_
  refine jx_put (w2 := [(h, .inr (0, (oX0 R (upd I 4 (0 : Int32)) L)))]) hx hb hts iX0_forget_0 tyX0 tyX0_ok nmX0 hown hK hP hD hS 0 rfl rfl 4 (by decide) hk25 rfl rfl rfl rfl (Nat.le_of_ble_eq_true rfl) dX0_forget_2 rfl (fun H locs hP hD hS => ?_)
  have hq : (sX0_forget I) = (upd I 4 (0 : Int32)) := rfl
  exact jx_vret () hx hb hr hlocks hK hP hD hS (by rw [hq]) trivial dX0_forget_5

def sX0_tell (I : Nat → Int32) (f0 : Nat → Int32) (f1 : Nat → Int32) (f2 : Nat → Int32) (a0 : Int32) (a1 : Int32) : Int32 := (if a0 < 0 then (-1 : Int32) else (if a0 < (I 4) then (if a1 = (0 : Int32) then (f0 (sX0_slotOf I a0).toNatClampNeg) else (if a1 = (1 : Int32) then (f1 (sX0_slotOf I a0).toNatClampNeg) else (if a1 = (2 : Int32) then (f2 (sX0_slotOf I a0).toNatClampNeg) else (-1 : Int32)))) else (-1 : Int32)))
set_option maxRecDepth 20000 in
theorem iX0_tell_0 : ∀ w ∈ wsX00, w ∈ wsX0_tell := by decide +kernel
set_option maxHeartbeats 4000000 in
set_option maxRecDepth 100000 in
theorem kX0_tell (l : Launch) (D : va_G) (cI cJ cZ cD : ClassId) (tA : Nat) (h : Nat) (R : Nat → Nat) (I : Nat → Int32) (L : Nat → Int64) (f0 : Nat → Int32) (f1 : Nat → Int32) (f2 : Nat → Int32) (a0 : Int32) (a1 : Int32) : jx_Ms l yX0_tell wsX0_tell ({ frames := 2, cells := 0, slots := 0, locals := 43 }) D (jT cI cJ cZ cD) tA [.ref h, .int a0, .int a1] [(h, .inr (0, (oX0 R I L))), ((R 0), .inl (cI, 64, .inl f0)), ((R 1), .inl (cI, 64, .inl f1)), ((R 2), .inl (cI, 64, .inl f2))] (vp_Si (fun r => r = (sX0_tell I f0 f1 f2 a0 a1))) := by
  refine jx_ofs (cc := cX0_tell) (maxL := 4) (ret := (some .int)) (by decide +kernel) rfl (Nat.le_of_ble_eq_true rfl) ?_
  intro p e s m below meth c A ls hx hb hr hlocks hml hown hts hK hP hD hA hS hX hl
  have hl : lv_has ls 4 [(0, .ref h), (1, .int a0), (2, .int a1)] := hl
  have hown : s.vm.findClass RX0 = some m.cls := hown
  have hk11 := hts (.fieldLink RX0 11 "LoomDesk$Cloth" "sheds" "[I") (by decide +kernel)
  have hk15 := hts (.fieldLink RX0 15 "LoomDesk$Cloth" "carriers" "[I") (by decide +kernel)
  have hk18 := hts (.fieldLink RX0 18 "LoomDesk$Cloth" "densities" "[I") (by decide +kernel)
  have hk25 := hts (.fieldLink RX0 25 "LoomDesk$Cloth" "kept" "I") (by decide +kernel)
  refine lv_iload_n hx hb dX0_tell_0 rfl (lv_at hl 1 rfl) ?_
  refine lv_if_lt (tgt := 12) hx hb dX0_tell_1 (by decide) (fun c_1 => ?_) (fun c_1 => ?_)
  · skip
    refine lv_iconst (v := -1) hx hb dX0_tell_12 (by decide) ?_
    have hq : (sX0_tell I f0 f1 f2 a0 a1) = (-1 : Int32) := by first | (rw [sX0_tell, if_pos c_1]; done) | simp only [sX0_tell, if_pos c_1]
    exact jx_siret hx hb hr hlocks hq.symm dX0_tell_13
  · skip
    refine lv_iload_n hx hb dX0_tell_4 rfl (lv_at hl 1 rfl) ?_
    refine lv_aload_n hx hb dX0_tell_5 rfl (lv_at hl 0 rfl) ?_
    refine jx_get (v := .int (I 4)) hx hb hts iX0_tell_0 hown hK hP 0 rfl rfl 4 (by decide) hk25 rfl rfl dX0_tell_6 ?_
    refine lv_icmp_lt (tgt := 14) hx hb dX0_tell_9 (by decide) (fun c_2 => ?_) (fun c_2 => ?_)
    · skip
      refine lv_aload_n hx hb dX0_tell_14 rfl (lv_at hl 0 rfl) ?_
      refine lv_iload_n hx hb dX0_tell_15 rfl (lv_at hl 1 rfl) ?_
      refine jx_pcalli (wc := [(h, .inr (0, (oX0 R I L)))]) hP hD hS hA [0] rfl (by decide) (fun hPc hDc hF => jx_runVs (As := [.int a0]) (rest := []) (n := 1) (ci := 0) (q0 := 0) hx hb hml hown hts hK hX hS hl.1 (kX0_slotOf l D cI cJ cZ cD tA h R I L a0) gX0_tell_X0_slotOf rfl rfl rfl (by decide +kernel) ⟨Nat.le_of_ble_eq_true rfl, Nat.le_of_ble_eq_true rfl⟩ rfl rfl rfl rfl rfl (Nat.le_of_ble_eq_true rfl) dX0_tell_16 ⟨Nat.zero_le _, Nat.zero_le _⟩ hPc hDc hF) (fun r_3 er_3 => ?_)
      have er_3 : r_3 = (sX0_slotOf I a0) := er_3
      refine lv_istore_n (lv' := [(3, .int r_3), (0, .ref h), (1, .int a0), (2, .int a1)]) hx hb dX0_tell_19 rfl hl (by decide) rfl (fun ls hl => ?_)
      refine lv_iload_n hx hb dX0_tell_20 rfl (lv_at hl 3 rfl) ?_
      by_cases c_4 : a1 = (0 : Int32)
      · skip
        refine lv_tableIn (off := 27) (tgt := 48) hx hb dX0_tell_21 (by rw [c_4]; decide) (by rw [c_4]; decide) (by rw [c_4]; rfl) (by decide) ?_
        refine lv_aload_n hx hb dX0_tell_48 rfl (lv_at hl 1 rfl) ?_
        refine jx_get (v := .ref (R 0)) hx hb hts iX0_tell_0 hown hK hP 0 rfl rfl 0 (by decide) hk11 rfl rfl dX0_tell_49 ?_
        refine lv_iload_n hx hb dX0_tell_52 rfl (lv_at hl 0 rfl) ?_
        refine va_iald hx hb hK hP 1 0 rfl rfl (by clear hP hD hl; subst er_3; exact jx_fm64 _) dX0_tell_53 ?_
        have hq : (sX0_tell I f0 f1 f2 a0 a1) = (f0 r_3.toNatClampNeg) := by clear hP hD hl; subst er_3; first | (rw [sX0_tell, if_neg c_1, if_pos c_2, if_pos c_4]; done) | simp only [sX0_tell, if_neg c_1, if_pos c_2, if_pos c_4]
        exact jx_siret hx hb hr hlocks hq.symm dX0_tell_54
      by_cases c_5 : a1 = (1 : Int32)
      · skip
        refine lv_tableIn (off := 34) (tgt := 55) hx hb dX0_tell_21 (by rw [c_5]; decide) (by rw [c_5]; decide) (by rw [c_5]; rfl) (by decide) ?_
        refine lv_aload_n hx hb dX0_tell_55 rfl (lv_at hl 1 rfl) ?_
        refine jx_get (v := .ref (R 1)) hx hb hts iX0_tell_0 hown hK hP 0 rfl rfl 1 (by decide) hk15 rfl rfl dX0_tell_56 ?_
        refine lv_iload_n hx hb dX0_tell_59 rfl (lv_at hl 0 rfl) ?_
        refine va_iald hx hb hK hP 2 0 rfl rfl (by clear hP hD hl; subst er_3; exact jx_fm64 _) dX0_tell_60 ?_
        have hq : (sX0_tell I f0 f1 f2 a0 a1) = (f1 r_3.toNatClampNeg) := by clear hP hD hl; subst er_3; first | (rw [sX0_tell, if_neg c_1, if_pos c_2, if_neg c_4, if_pos c_5]; done) | simp only [sX0_tell, if_neg c_1, if_pos c_2, if_neg c_4, if_pos c_5]
        exact jx_siret hx hb hr hlocks hq.symm dX0_tell_61
      by_cases c_6 : a1 = (2 : Int32)
      · skip
        refine lv_tableIn (off := 41) (tgt := 62) hx hb dX0_tell_21 (by rw [c_6]; decide) (by rw [c_6]; decide) (by rw [c_6]; rfl) (by decide) ?_
        refine lv_aload_n hx hb dX0_tell_62 rfl (lv_at hl 1 rfl) ?_
        refine jx_get (v := .ref (R 2)) hx hb hts iX0_tell_0 hown hK hP 0 rfl rfl 2 (by decide) hk18 rfl rfl dX0_tell_63 ?_
        refine lv_iload_n hx hb dX0_tell_66 rfl (lv_at hl 0 rfl) ?_
        refine va_iald hx hb hK hP 3 0 rfl rfl (by clear hP hD hl; subst er_3; exact jx_fm64 _) dX0_tell_67 ?_
        have hq : (sX0_tell I f0 f1 f2 a0 a1) = (f2 r_3.toNatClampNeg) := by clear hP hD hl; subst er_3; first | (rw [sX0_tell, if_neg c_1, if_pos c_2, if_neg c_4, if_neg c_5, if_pos c_6]; done) | simp only [sX0_tell, if_neg c_1, if_pos c_2, if_neg c_4, if_neg c_5, if_pos c_6]
        exact jx_siret hx hb hr hlocks hq.symm dX0_tell_68
      have hout : a1.toInt < 0 ∨ 2 < a1.toInt := by
        have z0 := lv_neT c_4 (show (0 : Int32).toInt = 0 by decide)
        have z1 := lv_neT c_5 (show (1 : Int32).toInt = 1 by decide)
        have z2 := lv_neT c_6 (show (2 : Int32).toInt = 2 by decide)
        omega
      refine lv_tableOut (tgt := 69) hx hb dX0_tell_21 hout (by decide) ?_
      refine lv_iconst (v := -1) hx hb dX0_tell_69 (by decide) ?_
      have hq : (sX0_tell I f0 f1 f2 a0 a1) = (-1 : Int32) := by clear hP hD hl; subst er_3; first | (rw [sX0_tell, if_neg c_1, if_pos c_2, if_neg c_4, if_neg c_5, if_neg c_6]; done) | simp only [sX0_tell, if_neg c_1, if_pos c_2, if_neg c_4, if_neg c_5, if_neg c_6]
      exact jx_siret hx hb hr hlocks hq.symm dX0_tell_70
    · skip
      refine lv_iconst (v := -1) hx hb dX0_tell_12 (by decide) ?_
      have hq : (sX0_tell I f0 f1 f2 a0 a1) = (-1 : Int32) := by first | (rw [sX0_tell, if_neg c_1, if_neg c_2]; done) | simp only [sX0_tell, if_neg c_1, if_neg c_2]
      exact jx_siret hx hb hr hlocks hq.symm dX0_tell_13
end
section
def sX3_other (I : Nat → Int32) : Int32 := (if (I 2) = 0 then (1 : Int32) else (0 : Int32))
set_option maxRecDepth 20000 in
theorem iX3_other_3 : ∀ w ∈ wsX30, w ∈ wsX3_other := by decide +kernel
set_option maxHeartbeats 4000000 in
set_option maxRecDepth 100000 in
theorem kX3_other (l : Launch) (D : va_G) (cI cJ cZ cD : ClassId) (tA : Nat) (h : Nat) (R : Nat → Nat) (I : Nat → Int32) (L : Nat → Int64) : jx_Ms l yX3_other wsX3_other ({ frames := 0, cells := 0, slots := 0, locals := 0 }) D (jT cI cJ cZ cD) tA [.ref h] [(h, .inr (3, (oX3 R I L)))] (vp_Si (fun r => r = (sX3_other I))) := by
  refine jx_ofs (cc := cX3_other) (maxL := 1) (ret := (some .int)) (by decide +kernel) rfl (Nat.le_of_ble_eq_true rfl) ?_
  intro p e s m below meth c A ls hx hb hr hlocks hml hown hts hK hP hD hA hS hX hl
  have hl : lv_has ls 1 [(0, .ref h)] := hl
  have hown : s.vm.findClass RX3 = some m.cls := hown
  have hk19 := hts (.fieldLink RX3 19 "LoomDesk$Records" "last" "I") (by decide +kernel)
  refine lv_aload_n hx hb dX3_other_0 rfl (lv_at hl 0 rfl) ?_
  refine jx_get (v := .int (I 2)) hx hb hts iX3_other_3 hown hK hP 0 rfl rfl 2 (by decide) hk19 rfl rfl dX3_other_1 ?_
  refine lv_if_ne (tgt := 11) hx hb dX3_other_4 (by decide) (fun c_1 => ?_) (fun c_1 => ?_)
  · skip
    refine lv_iconst (v := 0) hx hb dX3_other_11 (by decide) ?_
    have hq : (sX3_other I) = (0 : Int32) := by first | (rw [sX3_other, if_neg c_1]; done) | simp only [sX3_other, if_neg c_1]
    exact jx_siret hx hb hr hlocks hq.symm dX3_other_12
  · skip
    refine lv_iconst (v := 1) hx hb dX3_other_7 (by decide) ?_
    refine lv_goto (tgt := 12) hx hb dX3_other_8 (by decide) ?_
    have hq : (sX3_other I) = (1 : Int32) := by first | (rw [sX3_other, if_pos c_1]; done) | simp only [sX3_other, if_pos c_1]
    exact jx_siret hx hb hr hlocks hq.symm dX3_other_12

theorem jx_oth (I : Nat → Int32) : vp_in (sX3_other I) 2 := by unfold sX3_other; split <;> (unfold vp_in; decide)
def sX3_write (I : Nat → Int32) (f0 : Nat → Int32) (f1 : Nat → Int64) (a0 : Int32) (a1 : Int64) : (Nat → Int32) × (Nat → Int32) × (Nat → Int64) := ((upd I 2 (sX3_other I)), (upd f0 (sX3_other I).toNatClampNeg a0), (vp_updL f1 (sX3_other I).toNatClampNeg a1))
set_option maxRecDepth 20000 in
theorem iX3_write_3 : ∀ w ∈ wsX30, w ∈ wsX3_write := by decide +kernel
set_option maxHeartbeats 4000000 in
set_option maxRecDepth 100000 in
theorem kX3_write (l : Launch) (D : va_G) (cI cJ cZ cD : ClassId) (tA : Nat) (h : Nat) (R : Nat → Nat) (I : Nat → Int32) (L : Nat → Int64) (f0 : Nat → Int32) (f1 : Nat → Int64) (a0 : Int32) (a1 : Int64) : jx_M l yX3_write wsX3_write ({ frames := 1, cells := 0, slots := 0, locals := 20 }) D (jT cI cJ cZ cD) tA [.ref h, .int a0, .long a1] [(h, .inr (3, (oX3 R I L))), ((R 0), .inl (cI, 2, .inl f0)), ((R 1), .inl (cJ, 2, .inr (.inl f1)))] (jx_Qv D (jT cI cJ cZ cD) (fun (_ : Unit) => True) (fun _ => [(h, .inr (3, (oX3 R (sX3_write I f0 f1 a0 a1).1 L))), ((R 0), .inl (cI, 2, .inl ((sX3_write I f0 f1 a0 a1).2.1))), ((R 1), .inl (cJ, 2, .inr (.inl ((sX3_write I f0 f1 a0 a1).2.2))))])) := by
  refine jx_of (cc := cX3_write) (maxL := 4) (ret := none) (by decide +kernel) rfl (Nat.le_of_ble_eq_true rfl) ?_
  intro p e s m below meth c A ls hx hb hr hlocks hml hown hts hK hP hD hA hS hX hl
  have hl : lv_has ls 4 [(0, .ref h), (1, .int a0), (2, .long a1)] := hl
  have hown : s.vm.findClass RX3 = some m.cls := hown
  have hk9 := hts (.fieldLink RX3 9 "LoomDesk$Records" "marks" "[I") (by decide +kernel)
  have hk15 := hts (.fieldLink RX3 15 "LoomDesk$Records" "places" "[J") (by decide +kernel)
  have hk19 := hts (.fieldLink RX3 19 "LoomDesk$Records" "last" "I") (by decide +kernel)
  refine lv_aload_n hx hb dX3_write_0 rfl (lv_at hl 0 rfl) ?_
  refine lv_aload_n hx hb dX3_write_1 rfl (lv_at hl 0 rfl) ?_
  refine jx_pcalli (wc := [(h, .inr (3, (oX3 R I L)))]) hP hD hS hA [0] rfl (by decide) (fun hPc hDc hF => jx_runVs (As := []) (rest := [.ref h]) (n := 0) (ci := 3) (q0 := 0) hx hb hml hown hts hK hX hS hl.1 (kX3_other l D cI cJ cZ cD tA h R I L) gX3_write_X3_other rfl rfl rfl (by decide +kernel) ⟨Nat.le_of_ble_eq_true rfl, Nat.le_of_ble_eq_true rfl⟩ rfl rfl rfl rfl rfl (Nat.le_of_ble_eq_true rfl) dX3_write_2 ⟨Nat.zero_le _, Nat.zero_le _⟩ hPc hDc hF) (fun r_1 er_1 => ?_)
  have er_1 : r_1 = (sX3_other I) := er_1
  refine jx_put (w2 := [(h, .inr (3, (oX3 R (upd I 2 r_1) L))), ((R 0), .inl (cI, 2, .inl f0)), ((R 1), .inl (cJ, 2, .inr (.inl f1)))]) hx hb hts iX3_write_3 tyX3 tyX3_ok nmX3 hown hK hP hD hS 0 rfl rfl 2 (by decide) hk19 rfl rfl rfl rfl (Nat.le_of_ble_eq_true rfl) dX3_write_5 rfl (fun H locs hP hD hS => ?_)
  refine lv_aload_n hx hb dX3_write_8 rfl (lv_at hl 0 rfl) ?_
  refine jx_get (v := .ref (R 0)) hx hb hts iX3_write_3 hown hK hP 0 rfl rfl 0 (by decide) hk9 rfl rfl dX3_write_9 ?_
  refine lv_aload_n hx hb dX3_write_12 rfl (lv_at hl 0 rfl) ?_
  refine jx_get (v := .int r_1) hx hb hts iX3_write_3 hown hK hP 0 rfl rfl 2 (by decide) hk19 rfl rfl dX3_write_13 ?_
  refine lv_iload_n hx hb dX3_write_16 rfl (lv_at hl 1 rfl) ?_
  refine jx_iast (w2 := [(h, .inr (3, (oX3 R (upd I 2 r_1) L))), ((R 0), .inl (cI, 2, .inl (upd f0 r_1.toNatClampNeg a0))), ((R 1), .inl (cJ, 2, .inr (.inl f1)))]) hx hb hK hP hD hS 1 0 rfl rfl (by first | (unfold vp_in; decide) | exact jx_in2 hI | (clear hP hD hl; subst er_1; exact jx_oth _)) dX3_write_17 rfl (fun H locs hP hD hS => ?_)
  refine lv_aload_n hx hb dX3_write_18 rfl (lv_at hl 0 rfl) ?_
  refine jx_get (v := .ref (R 1)) hx hb hts iX3_write_3 hown hK hP 0 rfl rfl 1 (by decide) hk15 rfl rfl dX3_write_19 ?_
  refine lv_aload_n hx hb dX3_write_22 rfl (lv_at hl 0 rfl) ?_
  refine jx_get (v := .int r_1) hx hb hts iX3_write_3 hown hK hP 0 rfl rfl 2 (by decide) hk19 rfl rfl dX3_write_23 ?_
  refine lv_lload_n hx hb dX3_write_26 rfl (lv_at hl 2 rfl) ?_
  refine jx_last (w2 := [(h, .inr (3, (oX3 R (upd I 2 r_1) L))), ((R 0), .inl (cI, 2, .inl (upd f0 r_1.toNatClampNeg a0))), ((R 1), .inl (cJ, 2, .inr (.inl (vp_updL f1 r_1.toNatClampNeg a1))))]) hx hb hK hP hD hS 2 1 rfl rfl (by first | (unfold vp_in; decide) | exact jx_in2 hI | (clear hP hD hl; subst er_1; exact jx_oth _)) dX3_write_27 rfl (fun H locs hP hD hS => ?_)
  have hq : (sX3_write I f0 f1 a0 a1) = ((upd I 2 r_1), (upd f0 r_1.toNatClampNeg a0), (vp_updL f1 r_1.toNatClampNeg a1)) := by clear hP hD hl; subst er_1; rfl
  exact jx_vret () hx hb hr hlocks hK hP hD hS (by rw [hq]) trivial dX3_write_28

def sX3_spoilLast (I : Nat → Int32) (f0 : Nat → Int32) : (Nat → Int32) := (upd f0 (I 2).toNatClampNeg (-1 : Int32))
set_option maxRecDepth 20000 in
theorem iX3_spoilLast_3 : ∀ w ∈ wsX30, w ∈ wsX3_spoilLast := by decide +kernel
set_option maxHeartbeats 4000000 in
set_option maxRecDepth 100000 in
theorem kX3_spoilLast (l : Launch) (D : va_G) (cI cJ cZ cD : ClassId) (tA : Nat) (h : Nat) (R : Nat → Nat) (I : Nat → Int32) (L : Nat → Int64) (f0 : Nat → Int32) (f1 : Nat → Int64) (hI : I 2 = 0 ∨ I 2 = 1) : jx_M l yX3_spoilLast wsX3_spoilLast ({ frames := 0, cells := 0, slots := 0, locals := 0 }) D (jT cI cJ cZ cD) tA [.ref h] [(h, .inr (3, (oX3 R I L))), ((R 0), .inl (cI, 2, .inl f0)), ((R 1), .inl (cJ, 2, .inr (.inl f1)))] (jx_Qv D (jT cI cJ cZ cD) (fun (_ : Unit) => True) (fun _ => [(h, .inr (3, (oX3 R I L))), ((R 0), .inl (cI, 2, .inl (sX3_spoilLast I f0))), ((R 1), .inl (cJ, 2, .inr (.inl f1)))])) := by
  refine jx_of (cc := cX3_spoilLast) (maxL := 1) (ret := none) (by decide +kernel) rfl (Nat.le_of_ble_eq_true rfl) ?_
  intro p e s m below meth c A ls hx hb hr hlocks hml hown hts hK hP hD hA hS hX hl
  have hl : lv_has ls 1 [(0, .ref h)] := hl
  have hown : s.vm.findClass RX3 = some m.cls := hown
  have hk9 := hts (.fieldLink RX3 9 "LoomDesk$Records" "marks" "[I") (by decide +kernel)
  have hk19 := hts (.fieldLink RX3 19 "LoomDesk$Records" "last" "I") (by decide +kernel)
  refine lv_aload_n hx hb dX3_spoilLast_0 rfl (lv_at hl 0 rfl) ?_
  refine jx_get (v := .ref (R 0)) hx hb hts iX3_spoilLast_3 hown hK hP 0 rfl rfl 0 (by decide) hk9 rfl rfl dX3_spoilLast_1 ?_
  refine lv_aload_n hx hb dX3_spoilLast_4 rfl (lv_at hl 0 rfl) ?_
  refine jx_get (v := .int (I 2)) hx hb hts iX3_spoilLast_3 hown hK hP 0 rfl rfl 2 (by decide) hk19 rfl rfl dX3_spoilLast_5 ?_
  refine lv_iconst (v := -1) hx hb dX3_spoilLast_8 (by decide) ?_
  refine jx_iast (w2 := [(h, .inr (3, (oX3 R I L))), ((R 0), .inl (cI, 2, .inl (upd f0 (I 2).toNatClampNeg (-1 : Int32)))), ((R 1), .inl (cJ, 2, .inr (.inl f1)))]) hx hb hK hP hD hS 1 0 rfl rfl (by first | (unfold vp_in; decide) | exact jx_in2 hI | (exact jx_oth _)) dX3_spoilLast_9 rfl (fun H locs hP hD hS => ?_)
  have hq : (sX3_spoilLast I f0) = (upd f0 (I 2).toNatClampNeg (-1 : Int32)) := rfl
  exact jx_vret () hx hb hr hlocks hK hP hD hS (by rw [hq]) trivial dX3_spoilLast_10

def sX3_clear (f0 : Nat → Int32) : (Nat → Int32) := (upd (upd f0 (0 : Int32).toNatClampNeg (-1 : Int32)) (1 : Int32).toNatClampNeg (-1 : Int32))
set_option maxRecDepth 20000 in
theorem iX3_clear_3 : ∀ w ∈ wsX30, w ∈ wsX3_clear := by decide +kernel
set_option maxHeartbeats 4000000 in
set_option maxRecDepth 100000 in
theorem kX3_clear (l : Launch) (D : va_G) (cI cJ cZ cD : ClassId) (tA : Nat) (h : Nat) (R : Nat → Nat) (I : Nat → Int32) (L : Nat → Int64) (f0 : Nat → Int32) (f1 : Nat → Int64) : jx_M l yX3_clear wsX3_clear ({ frames := 0, cells := 0, slots := 0, locals := 0 }) D (jT cI cJ cZ cD) tA [.ref h] [(h, .inr (3, (oX3 R I L))), ((R 0), .inl (cI, 2, .inl f0)), ((R 1), .inl (cJ, 2, .inr (.inl f1)))] (jx_Qv D (jT cI cJ cZ cD) (fun (_ : Unit) => True) (fun _ => [(h, .inr (3, (oX3 R I L))), ((R 0), .inl (cI, 2, .inl (sX3_clear f0))), ((R 1), .inl (cJ, 2, .inr (.inl f1)))])) := by
  refine jx_of (cc := cX3_clear) (maxL := 1) (ret := none) (by decide +kernel) rfl (Nat.le_of_ble_eq_true rfl) ?_
  intro p e s m below meth c A ls hx hb hr hlocks hml hown hts hK hP hD hA hS hX hl
  have hl : lv_has ls 1 [(0, .ref h)] := hl
  have hown : s.vm.findClass RX3 = some m.cls := hown
  have hk9 := hts (.fieldLink RX3 9 "LoomDesk$Records" "marks" "[I") (by decide +kernel)
  refine lv_aload_n hx hb dX3_clear_0 rfl (lv_at hl 0 rfl) ?_
  refine jx_get (v := .ref (R 0)) hx hb hts iX3_clear_3 hown hK hP 0 rfl rfl 0 (by decide) hk9 rfl rfl dX3_clear_1 ?_
  refine lv_iconst (v := 0) hx hb dX3_clear_4 (by decide) ?_
  refine lv_iconst (v := -1) hx hb dX3_clear_5 (by decide) ?_
  refine jx_iast (w2 := [(h, .inr (3, (oX3 R I L))), ((R 0), .inl (cI, 2, .inl (upd f0 (0 : Int32).toNatClampNeg (-1 : Int32)))), ((R 1), .inl (cJ, 2, .inr (.inl f1)))]) hx hb hK hP hD hS 1 0 rfl rfl (by first | (unfold vp_in; decide) | exact jx_in2 hI | (exact jx_oth _)) dX3_clear_6 rfl (fun H locs hP hD hS => ?_)
  refine lv_aload_n hx hb dX3_clear_7 rfl (lv_at hl 0 rfl) ?_
  refine jx_get (v := .ref (R 0)) hx hb hts iX3_clear_3 hown hK hP 0 rfl rfl 0 (by decide) hk9 rfl rfl dX3_clear_8 ?_
  refine lv_iconst (v := 1) hx hb dX3_clear_11 (by decide) ?_
  refine lv_iconst (v := -1) hx hb dX3_clear_12 (by decide) ?_
  refine jx_iast (w2 := [(h, .inr (3, (oX3 R I L))), ((R 0), .inl (cI, 2, .inl (upd (upd f0 (0 : Int32).toNatClampNeg (-1 : Int32)) (1 : Int32).toNatClampNeg (-1 : Int32)))), ((R 1), .inl (cJ, 2, .inr (.inl f1)))]) hx hb hK hP hD hS 1 0 rfl rfl (by first | (unfold vp_in; decide) | exact jx_in2 hI | (exact jx_oth _)) dX3_clear_13 rfl (fun H locs hP hD hS => ?_)
  have hq : (sX3_clear f0) = (upd (upd f0 (0 : Int32).toNatClampNeg (-1 : Int32)) (1 : Int32).toNatClampNeg (-1 : Int32)) := rfl
  exact jx_vret () hx hb hr hlocks hK hP hD hS (by rw [hq]) trivial dX3_clear_14

def sX3_newest (I : Nat → Int32) (f0 : Nat → Int32) : Int32 := (if (f0 (I 2).toNatClampNeg) = (-1 : Int32) then (if (f0 (sX3_other I).toNatClampNeg) = (-1 : Int32) then (-1 : Int32) else (sX3_other I)) else (I 2))
set_option maxRecDepth 20000 in
theorem iX3_newest_3 : ∀ w ∈ wsX30, w ∈ wsX3_newest := by decide +kernel
set_option maxHeartbeats 4000000 in
set_option maxRecDepth 100000 in
theorem kX3_newest (l : Launch) (D : va_G) (cI cJ cZ cD : ClassId) (tA : Nat) (h : Nat) (R : Nat → Nat) (I : Nat → Int32) (L : Nat → Int64) (f0 : Nat → Int32) (f1 : Nat → Int64) (hI : I 2 = 0 ∨ I 2 = 1) : jx_Ms l yX3_newest wsX3_newest ({ frames := 1, cells := 0, slots := 0, locals := 20 }) D (jT cI cJ cZ cD) tA [.ref h] [(h, .inr (3, (oX3 R I L))), ((R 0), .inl (cI, 2, .inl f0)), ((R 1), .inl (cJ, 2, .inr (.inl f1)))] (vp_Si (fun r => r = (sX3_newest I f0))) := by
  refine jx_ofs (cc := cX3_newest) (maxL := 1) (ret := (some .int)) (by decide +kernel) rfl (Nat.le_of_ble_eq_true rfl) ?_
  intro p e s m below meth c A ls hx hb hr hlocks hml hown hts hK hP hD hA hS hX hl
  have hl : lv_has ls 1 [(0, .ref h)] := hl
  have hown : s.vm.findClass RX3 = some m.cls := hown
  have hk9 := hts (.fieldLink RX3 9 "LoomDesk$Records" "marks" "[I") (by decide +kernel)
  have hk19 := hts (.fieldLink RX3 19 "LoomDesk$Records" "last" "I") (by decide +kernel)
  refine lv_aload_n hx hb dX3_newest_0 rfl (lv_at hl 0 rfl) ?_
  refine jx_get (v := .ref (R 0)) hx hb hts iX3_newest_3 hown hK hP 0 rfl rfl 0 (by decide) hk9 rfl rfl dX3_newest_1 ?_
  refine lv_aload_n hx hb dX3_newest_4 rfl (lv_at hl 0 rfl) ?_
  refine jx_get (v := .int (I 2)) hx hb hts iX3_newest_3 hown hK hP 0 rfl rfl 2 (by decide) hk19 rfl rfl dX3_newest_5 ?_
  refine va_iald hx hb hK hP 1 0 rfl rfl (by first | (unfold vp_in; decide) | exact jx_in2 hI | (exact jx_oth _)) dX3_newest_8 ?_
  refine lv_iconst (v := -1) hx hb dX3_newest_9 (by decide) ?_
  refine lv_icmp_eq (tgt := 18) hx hb dX3_newest_10 (by decide) (fun c_1 => ?_) (fun c_1 => ?_)
  · skip
    refine lv_aload_n hx hb dX3_newest_18 rfl (lv_at hl 0 rfl) ?_
    refine jx_get (v := .ref (R 0)) hx hb hts iX3_newest_3 hown hK hP 0 rfl rfl 0 (by decide) hk9 rfl rfl dX3_newest_19 ?_
    refine lv_aload_n hx hb dX3_newest_22 rfl (lv_at hl 0 rfl) ?_
    refine jx_pcalli (wc := [(h, .inr (3, (oX3 R I L)))]) hP hD hS hA [0] rfl (by decide) (fun hPc hDc hF => jx_runVs (As := []) (rest := [.ref (R 0)]) (n := 0) (ci := 3) (q0 := 0) hx hb hml hown hts hK hX hS hl.1 (kX3_other l D cI cJ cZ cD tA h R I L) gX3_newest_X3_other rfl rfl rfl (by decide +kernel) ⟨Nat.le_of_ble_eq_true rfl, Nat.le_of_ble_eq_true rfl⟩ rfl rfl rfl rfl rfl (Nat.le_of_ble_eq_true rfl) dX3_newest_23 ⟨Nat.zero_le _, Nat.zero_le _⟩ hPc hDc hF) (fun r_2 er_2 => ?_)
    have er_2 : r_2 = (sX3_other I) := er_2
    refine va_iald hx hb hK hP 1 0 rfl rfl (by first | (unfold vp_in; decide) | exact jx_in2 hI | (clear hP hD hl; subst er_2; exact jx_oth _)) dX3_newest_26 ?_
    refine lv_iconst (v := -1) hx hb dX3_newest_27 (by decide) ?_
    refine lv_icmp_eq (tgt := 38) hx hb dX3_newest_28 (by decide) (fun c_3 => ?_) (fun c_3 => ?_)
    · skip
      refine lv_iconst (v := -1) hx hb dX3_newest_38 (by decide) ?_
      have hq : (sX3_newest I f0) = (-1 : Int32) := by clear hP hD hl; subst er_2; first | (rw [sX3_newest, if_pos c_1, if_pos c_3]; done) | simp only [sX3_newest, if_pos c_1, if_pos c_3]
      exact jx_siret hx hb hr hlocks hq.symm dX3_newest_39
    · skip
      refine lv_aload_n hx hb dX3_newest_31 rfl (lv_at hl 0 rfl) ?_
      refine jx_pcalli (wc := [(h, .inr (3, (oX3 R I L)))]) hP hD hS hA [0] rfl (by decide) (fun hPc hDc hF => jx_runVs (As := []) (rest := []) (n := 0) (ci := 3) (q0 := 0) hx hb hml hown hts hK hX hS hl.1 (kX3_other l D cI cJ cZ cD tA h R I L) gX3_newest_X3_other rfl rfl rfl (by decide +kernel) ⟨Nat.le_of_ble_eq_true rfl, Nat.le_of_ble_eq_true rfl⟩ rfl rfl rfl rfl rfl (Nat.le_of_ble_eq_true rfl) dX3_newest_32 ⟨Nat.zero_le _, Nat.zero_le _⟩ hPc hDc hF) (fun r_4 er_4 => ?_)
      have er_4 : r_4 = (sX3_other I) := er_4
      refine lv_goto (tgt := 39) hx hb dX3_newest_35 (by decide) ?_
      have hq : (sX3_newest I f0) = r_4 := by clear hP hD hl; subst er_4; subst er_2; first | (rw [sX3_newest, if_pos c_1, if_neg c_3]; done) | simp only [sX3_newest, if_pos c_1, if_neg c_3]
      exact jx_siret hx hb hr hlocks hq.symm dX3_newest_39
  · skip
    refine lv_aload_n hx hb dX3_newest_13 rfl (lv_at hl 0 rfl) ?_
    refine jx_get (v := .int (I 2)) hx hb hts iX3_newest_3 hown hK hP 0 rfl rfl 2 (by decide) hk19 rfl rfl dX3_newest_14 ?_
    have hq : (sX3_newest I f0) = (I 2) := by first | (rw [sX3_newest, if_neg c_1]; done) | simp only [sX3_newest, if_neg c_1]
    exact jx_siret hx hb hr hlocks hq.symm dX3_newest_17

def sX3_markOf (f0 : Nat → Int32) (a0 : Int32) : Int32 := (if a0 = 0 then (f0 a0.toNatClampNeg) else (if a0 = (1 : Int32) then (f0 a0.toNatClampNeg) else (-1 : Int32)))
set_option maxRecDepth 20000 in
theorem iX3_markOf_3 : ∀ w ∈ wsX30, w ∈ wsX3_markOf := by decide +kernel
set_option maxHeartbeats 4000000 in
set_option maxRecDepth 100000 in
theorem kX3_markOf (l : Launch) (D : va_G) (cI cJ cZ cD : ClassId) (tA : Nat) (h : Nat) (R : Nat → Nat) (I : Nat → Int32) (L : Nat → Int64) (f0 : Nat → Int32) (f1 : Nat → Int64) (a0 : Int32) : jx_Ms l yX3_markOf wsX3_markOf ({ frames := 0, cells := 0, slots := 0, locals := 0 }) D (jT cI cJ cZ cD) tA [.ref h, .int a0] [(h, .inr (3, (oX3 R I L))), ((R 0), .inl (cI, 2, .inl f0)), ((R 1), .inl (cJ, 2, .inr (.inl f1)))] (vp_Si (fun r => r = (sX3_markOf f0 a0))) := by
  refine jx_ofs (cc := cX3_markOf) (maxL := 2) (ret := (some .int)) (by decide +kernel) rfl (Nat.le_of_ble_eq_true rfl) ?_
  intro p e s m below meth c A ls hx hb hr hlocks hml hown hts hK hP hD hA hS hX hl
  have hl : lv_has ls 2 [(0, .ref h), (1, .int a0)] := hl
  have hown : s.vm.findClass RX3 = some m.cls := hown
  have hk9 := hts (.fieldLink RX3 9 "LoomDesk$Records" "marks" "[I") (by decide +kernel)
  refine lv_iload_n hx hb dX3_markOf_0 rfl (lv_at hl 1 rfl) ?_
  refine lv_if_eq (tgt := 9) hx hb dX3_markOf_1 (by decide) (fun c_1 => ?_) (fun c_1 => ?_)
  · skip
    refine lv_aload_n hx hb dX3_markOf_9 rfl (lv_at hl 0 rfl) ?_
    refine jx_get (v := .ref (R 0)) hx hb hts iX3_markOf_3 hown hK hP 0 rfl rfl 0 (by decide) hk9 rfl rfl dX3_markOf_10 ?_
    refine lv_iload_n hx hb dX3_markOf_13 rfl (lv_at hl 1 rfl) ?_
    refine va_iald hx hb hK hP 1 0 rfl rfl (by first | exact jx_in2 (Or.inl c_1) | exact jx_in2 (Or.inr c_2)) dX3_markOf_14 ?_
    refine lv_goto (tgt := 19) hx hb dX3_markOf_15 (by decide) ?_
    have hq : (sX3_markOf f0 a0) = (f0 a0.toNatClampNeg) := by first | (rw [sX3_markOf, if_pos c_1]; done) | simp only [sX3_markOf, if_pos c_1]
    exact jx_siret hx hb hr hlocks hq.symm dX3_markOf_19
  · skip
    refine lv_iload_n hx hb dX3_markOf_4 rfl (lv_at hl 1 rfl) ?_
    refine lv_iconst (v := 1) hx hb dX3_markOf_5 (by decide) ?_
    refine lv_icmp_ne (tgt := 18) hx hb dX3_markOf_6 (by decide) (fun c_2 => ?_) (fun c_2 => ?_)
    · skip
      refine lv_iconst (v := -1) hx hb dX3_markOf_18 (by decide) ?_
      have hq : (sX3_markOf f0 a0) = (-1 : Int32) := by first | (rw [sX3_markOf, if_neg c_1, if_neg c_2]; done) | simp only [sX3_markOf, if_neg c_1, if_neg c_2]
      exact jx_siret hx hb hr hlocks hq.symm dX3_markOf_19
    · skip
      refine lv_aload_n hx hb dX3_markOf_9 rfl (lv_at hl 0 rfl) ?_
      refine jx_get (v := .ref (R 0)) hx hb hts iX3_markOf_3 hown hK hP 0 rfl rfl 0 (by decide) hk9 rfl rfl dX3_markOf_10 ?_
      refine lv_iload_n hx hb dX3_markOf_13 rfl (lv_at hl 1 rfl) ?_
      refine va_iald hx hb hK hP 1 0 rfl rfl (by first | exact jx_in2 (Or.inl c_1) | exact jx_in2 (Or.inr c_2)) dX3_markOf_14 ?_
      refine lv_goto (tgt := 19) hx hb dX3_markOf_15 (by decide) ?_
      have hq : (sX3_markOf f0 a0) = (f0 a0.toNatClampNeg) := by first | (rw [sX3_markOf, if_neg c_1, if_pos c_2]; done) | simp only [sX3_markOf, if_neg c_1, if_pos c_2]
      exact jx_siret hx hb hr hlocks hq.symm dX3_markOf_19

def sX3_placeOf (f1 : Nat → Int64) (a0 : Int32) : Int64 := (if a0 = 0 then (f1 a0.toNatClampNeg) else (if a0 = (1 : Int32) then (f1 a0.toNatClampNeg) else (0 : Int64)))
set_option maxRecDepth 20000 in
theorem iX3_placeOf_3 : ∀ w ∈ wsX30, w ∈ wsX3_placeOf := by decide +kernel
set_option maxHeartbeats 4000000 in
set_option maxRecDepth 100000 in
theorem kX3_placeOf (l : Launch) (D : va_G) (cI cJ cZ cD : ClassId) (tA : Nat) (h : Nat) (R : Nat → Nat) (I : Nat → Int32) (L : Nat → Int64) (f0 : Nat → Int32) (f1 : Nat → Int64) (a0 : Int32) : jx_Ms l yX3_placeOf wsX3_placeOf ({ frames := 0, cells := 0, slots := 0, locals := 0 }) D (jT cI cJ cZ cD) tA [.ref h, .int a0] [(h, .inr (3, (oX3 R I L))), ((R 0), .inl (cI, 2, .inl f0)), ((R 1), .inl (cJ, 2, .inr (.inl f1)))] (vp_Sl (fun r => r = (sX3_placeOf f1 a0))) := by
  refine jx_ofs (cc := cX3_placeOf) (maxL := 2) (ret := (some .long)) (by decide +kernel) rfl (Nat.le_of_ble_eq_true rfl) ?_
  intro p e s m below meth c A ls hx hb hr hlocks hml hown hts hK hP hD hA hS hX hl
  have hl : lv_has ls 2 [(0, .ref h), (1, .int a0)] := hl
  have hown : s.vm.findClass RX3 = some m.cls := hown
  have hk15 := hts (.fieldLink RX3 15 "LoomDesk$Records" "places" "[J") (by decide +kernel)
  refine lv_iload_n hx hb dX3_placeOf_0 rfl (lv_at hl 1 rfl) ?_
  refine lv_if_eq (tgt := 9) hx hb dX3_placeOf_1 (by decide) (fun c_1 => ?_) (fun c_1 => ?_)
  · skip
    refine lv_aload_n hx hb dX3_placeOf_9 rfl (lv_at hl 0 rfl) ?_
    refine jx_get (v := .ref (R 1)) hx hb hts iX3_placeOf_3 hown hK hP 0 rfl rfl 1 (by decide) hk15 rfl rfl dX3_placeOf_10 ?_
    refine lv_iload_n hx hb dX3_placeOf_13 rfl (lv_at hl 1 rfl) ?_
    refine va_lald hx hb hK hP 2 1 rfl rfl (by first | exact jx_in2 (Or.inl c_1) | exact jx_in2 (Or.inr c_2)) dX3_placeOf_14 ?_
    refine lv_goto (tgt := 19) hx hb dX3_placeOf_15 (by decide) ?_
    have hq : (sX3_placeOf f1 a0) = (f1 a0.toNatClampNeg) := by first | (rw [sX3_placeOf, if_pos c_1]; done) | simp only [sX3_placeOf, if_pos c_1]
    exact jx_slret hx hb hr hlocks hq.symm dX3_placeOf_19
  · skip
    refine lv_iload_n hx hb dX3_placeOf_4 rfl (lv_at hl 1 rfl) ?_
    refine lv_iconst (v := 1) hx hb dX3_placeOf_5 (by decide) ?_
    refine lv_icmp_ne (tgt := 18) hx hb dX3_placeOf_6 (by decide) (fun c_2 => ?_) (fun c_2 => ?_)
    · skip
      refine lv_lconst (v := 0) hx hb dX3_placeOf_18 (by decide) ?_
      have hq : (sX3_placeOf f1 a0) = (0 : Int64) := by first | (rw [sX3_placeOf, if_neg c_1, if_neg c_2]; done) | simp only [sX3_placeOf, if_neg c_1, if_neg c_2]
      exact jx_slret hx hb hr hlocks hq.symm dX3_placeOf_19
    · skip
      refine lv_aload_n hx hb dX3_placeOf_9 rfl (lv_at hl 0 rfl) ?_
      refine jx_get (v := .ref (R 1)) hx hb hts iX3_placeOf_3 hown hK hP 0 rfl rfl 1 (by decide) hk15 rfl rfl dX3_placeOf_10 ?_
      refine lv_iload_n hx hb dX3_placeOf_13 rfl (lv_at hl 1 rfl) ?_
      refine va_lald hx hb hK hP 2 1 rfl rfl (by first | exact jx_in2 (Or.inl c_1) | exact jx_in2 (Or.inr c_2)) dX3_placeOf_14 ?_
      refine lv_goto (tgt := 19) hx hb dX3_placeOf_15 (by decide) ?_
      have hq : (sX3_placeOf f1 a0) = (f1 a0.toNatClampNeg) := by first | (rw [sX3_placeOf, if_neg c_1, if_pos c_2]; done) | simp only [sX3_placeOf, if_neg c_1, if_pos c_2]
      exact jx_slret hx hb hr hlocks hq.symm dX3_placeOf_19
end
section
def sX5_charOf (I : Nat → Int32) (f0 : Nat → Int32) (a0 : Int32) : Int32 := (if a0 < 0 then (-1 : Int32) else (if (I 1) ≤ a0 then (-1 : Int32) else (f0 a0.toNatClampNeg)))
set_option maxRecDepth 20000 in
theorem iX5_charOf_5 : ∀ w ∈ wsX50, w ∈ wsX5_charOf := by decide +kernel
set_option maxHeartbeats 4000000 in
set_option maxRecDepth 100000 in
theorem kX5_charOf (l : Launch) (D : va_G) (cI cJ cZ cD : ClassId) (tA : Nat) (h : Nat) (R : Nat → Nat) (I : Nat → Int32) (L : Nat → Int64) (f0 : Nat → Int32) (a0 : Int32) (hs : (I 1).toInt ≤ 160) : jx_Ms l yX5_charOf wsX5_charOf ({ frames := 0, cells := 0, slots := 0, locals := 0 }) D (jT cI cJ cZ cD) tA [.ref h, .int a0] [(h, .inr (5, (oX5 R I L))), ((R 0), .inl (cI, 160, .inl f0))] (vp_Si (fun r => r = (sX5_charOf I f0 a0))) := by
  refine jx_ofs (cc := cX5_charOf) (maxL := 2) (ret := (some .int)) (by decide +kernel) rfl (Nat.le_of_ble_eq_true rfl) ?_
  intro p e s m below meth c A ls hx hb hr hlocks hml hown hts hK hP hD hA hS hX hl
  have hl : lv_has ls 2 [(0, .ref h), (1, .int a0)] := hl
  have hown : s.vm.findClass RX5 = some m.cls := hown
  have hk11 := hts (.fieldLink RX5 11 "LoomDesk$Tape" "chars" "[I") (by decide +kernel)
  have hk15 := hts (.fieldLink RX5 15 "LoomDesk$Tape" "size" "I") (by decide +kernel)
  refine lv_iload_n hx hb dX5_charOf_0 rfl (lv_at hl 1 rfl) ?_
  refine lv_if_lt (tgt := 21) hx hb dX5_charOf_1 (by decide) (fun c_1 => ?_) (fun c_1 => ?_)
  · skip
    refine lv_iconst (v := -1) hx hb dX5_charOf_21 (by decide) ?_
    have hq : (sX5_charOf I f0 a0) = (-1 : Int32) := by first | (rw [sX5_charOf, if_pos c_1]; done) | simp only [sX5_charOf, if_pos c_1]
    exact jx_siret hx hb hr hlocks hq.symm dX5_charOf_22
  · skip
    refine lv_iload_n hx hb dX5_charOf_4 rfl (lv_at hl 1 rfl) ?_
    refine lv_aload_n hx hb dX5_charOf_5 rfl (lv_at hl 0 rfl) ?_
    refine jx_get (v := .int (I 1)) hx hb hts iX5_charOf_5 hown hK hP 0 rfl rfl 1 (by decide) hk15 rfl rfl dX5_charOf_6 ?_
    refine lv_icmp_ge (tgt := 21) hx hb dX5_charOf_9 (by decide) (fun c_2 => ?_) (fun c_2 => ?_)
    · skip
      refine lv_iconst (v := -1) hx hb dX5_charOf_21 (by decide) ?_
      have hq : (sX5_charOf I f0 a0) = (-1 : Int32) := by first | (rw [sX5_charOf, if_neg c_1, if_pos c_2]; done) | simp only [sX5_charOf, if_neg c_1, if_pos c_2]
      exact jx_siret hx hb hr hlocks hq.symm dX5_charOf_22
    · skip
      refine lv_aload_n hx hb dX5_charOf_12 rfl (lv_at hl 0 rfl) ?_
      refine jx_get (v := .ref (R 0)) hx hb hts iX5_charOf_5 hown hK hP 0 rfl rfl 0 (by decide) hk11 rfl rfl dX5_charOf_13 ?_
      refine lv_iload_n hx hb dX5_charOf_16 rfl (lv_at hl 1 rfl) ?_
      refine va_iald hx hb hK hP 1 0 rfl rfl (jx_inlt c_1 c_2 hs) dX5_charOf_17 ?_
      refine lv_goto (tgt := 22) hx hb dX5_charOf_18 (by decide) ?_
      have hq : (sX5_charOf I f0 a0) = (f0 a0.toNatClampNeg) := by first | (rw [sX5_charOf, if_neg c_1, if_neg c_2]; done) | simp only [sX5_charOf, if_neg c_1, if_neg c_2]
      exact jx_siret hx hb hr hlocks hq.symm dX5_charOf_22

def sX5_clear (I : Nat → Int32) : (Nat → Int32) := (upd I 1 (0 : Int32))
set_option maxRecDepth 20000 in
theorem iX5_clear_5 : ∀ w ∈ wsX50, w ∈ wsX5_clear := by decide +kernel
set_option maxHeartbeats 4000000 in
set_option maxRecDepth 100000 in
theorem kX5_clear (l : Launch) (D : va_G) (cI cJ cZ cD : ClassId) (tA : Nat) (h : Nat) (R : Nat → Nat) (I : Nat → Int32) (L : Nat → Int64) : jx_M l yX5_clear wsX5_clear ({ frames := 0, cells := 0, slots := 0, locals := 0 }) D (jT cI cJ cZ cD) tA [.ref h] [(h, .inr (5, (oX5 R I L)))] (jx_Qv D (jT cI cJ cZ cD) (fun (_ : Unit) => True) (fun _ => [(h, .inr (5, (oX5 R (sX5_clear I) L)))])) := by
  refine jx_of (cc := cX5_clear) (maxL := 1) (ret := none) (by decide +kernel) rfl (Nat.le_of_ble_eq_true rfl) ?_
  intro p e s m below meth c A ls hx hb hr hlocks hml hown hts hK hP hD hA hS hX hl
  have hl : lv_has ls 1 [(0, .ref h)] := hl
  have hown : s.vm.findClass RX5 = some m.cls := hown
  have hk15 := hts (.fieldLink RX5 15 "LoomDesk$Tape" "size" "I") (by decide +kernel)
  refine lv_aload_n hx hb dX5_clear_0 rfl (lv_at hl 0 rfl) ?_
  refine lv_iconst (v := 0) hx hb dX5_clear_1 (by decide) ?_
  refine jx_put (w2 := [(h, .inr (5, (oX5 R (upd I 1 (0 : Int32)) L)))]) hx hb hts iX5_clear_5 tyX5 tyX5_ok nmX5 hown hK hP hD hS 0 rfl rfl 1 (by decide) hk15 rfl rfl rfl rfl (Nat.le_of_ble_eq_true rfl) dX5_clear_2 rfl (fun H locs hP hD hS => ?_)
  have hq : (sX5_clear I) = (upd I 1 (0 : Int32)) := rfl
  exact jx_vret () hx hb hr hlocks hK hP hD hS (by rw [hq]) trivial dX5_clear_5

def sX5_byteOf (a0 : Int64) (a1 : Int32) : Int32 := (((a0.toUInt64 >>> (((8 : Int32) * a1).toInt64.toUInt64 &&& Int64.toUInt64 63)).toInt64).toInt32 &&& (255 : Int32))
set_option maxHeartbeats 4000000 in
set_option maxRecDepth 100000 in
theorem kX5_byteOf (l : Launch) (D : va_G) (cI cJ cZ cD : ClassId) (tA : Nat) (a0 : Int64) (a1 : Int32) : jx_Ms l yX5_byteOf wsX5_byteOf ({ frames := 0, cells := 0, slots := 0, locals := 0 }) D (jT cI cJ cZ cD) tA [.long a0, .int a1] [] (vp_Si (fun r => r = (sX5_byteOf a0 a1))) := by
  refine jx_ofs (cc := cX5_byteOf) (maxL := 3) (ret := (some .int)) (by decide +kernel) rfl (Nat.le_of_ble_eq_true rfl) ?_
  intro p e s m below meth c A ls hx hb hr hlocks hml hown hts hK hP hD hA hS hX hl
  have hl : lv_has ls 3 [(0, .long a0), (2, .int a1)] := hl
  have hown : s.vm.findClass RX5 = some m.cls := hown
  refine lv_lload_n hx hb dX5_byteOf_0 rfl (lv_at hl 0 rfl) ?_
  refine lv_bipush (v := 8) hx hb dX5_byteOf_1 (by decide) ?_
  refine lv_iload_n hx hb dX5_byteOf_3 rfl (lv_at hl 1 rfl) ?_
  refine lv_imul hx hb dX5_byteOf_4 ?_
  refine lv_lushr hx hb dX5_byteOf_5 rfl ?_
  refine lv_l2i hx hb dX5_byteOf_6 rfl ?_
  refine lv_sipush (v := 255) hx hb dX5_byteOf_7 (by decide) ?_
  refine lv_iand hx hb dX5_byteOf_10 ?_
  have hq : (sX5_byteOf a0 a1) = (((a0.toUInt64 >>> (((8 : Int32) * a1).toInt64.toUInt64 &&& Int64.toUInt64 63)).toInt64).toInt32 &&& (255 : Int32)) := rfl
  exact jx_siret hx hb hr hlocks hq.symm dX5_byteOf_11

def sX5_add (I : Nat → Int32) (f0 : Nat → Int32) (a0 : Int32) : (Nat → Int32) × (Nat → Int32) := (if (I 1) < 0 then (I, f0) else (if (160 : Int32) ≤ (I 1) then (I, f0) else ((upd I 1 ((I 1) + (1 : Int32))), (upd f0 (I 1).toNatClampNeg a0))))
set_option maxRecDepth 20000 in
theorem iX5_add_5 : ∀ w ∈ wsX50, w ∈ wsX5_add := by decide +kernel
set_option maxHeartbeats 4000000 in
set_option maxRecDepth 100000 in
theorem kX5_add (l : Launch) (D : va_G) (cI cJ cZ cD : ClassId) (tA : Nat) (h : Nat) (R : Nat → Nat) (I : Nat → Int32) (L : Nat → Int64) (f0 : Nat → Int32) (a0 : Int32) : jx_M l yX5_add wsX5_add ({ frames := 0, cells := 0, slots := 0, locals := 0 }) D (jT cI cJ cZ cD) tA [.ref h, .int a0] [(h, .inr (5, (oX5 R I L))), ((R 0), .inl (cI, 160, .inl f0))] (jx_Qv D (jT cI cJ cZ cD) (fun (_ : Unit) => True) (fun _ => [(h, .inr (5, (oX5 R (sX5_add I f0 a0).1 L))), ((R 0), .inl (cI, 160, .inl ((sX5_add I f0 a0).2)))])) := by
  refine jx_of (cc := cX5_add) (maxL := 2) (ret := none) (by decide +kernel) rfl (Nat.le_of_ble_eq_true rfl) ?_
  intro p e s m below meth c A ls hx hb hr hlocks hml hown hts hK hP hD hA hS hX hl
  have hl : lv_has ls 2 [(0, .ref h), (1, .int a0)] := hl
  have hown : s.vm.findClass RX5 = some m.cls := hown
  have hk11 := hts (.fieldLink RX5 11 "LoomDesk$Tape" "chars" "[I") (by decide +kernel)
  have hk15 := hts (.fieldLink RX5 15 "LoomDesk$Tape" "size" "I") (by decide +kernel)
  refine lv_aload_n hx hb dX5_add_0 rfl (lv_at hl 0 rfl) ?_
  refine jx_get (v := .int (I 1)) hx hb hts iX5_add_5 hown hK hP 0 rfl rfl 1 (by decide) hk15 rfl rfl dX5_add_1 ?_
  refine lv_if_lt (tgt := 37) hx hb dX5_add_4 (by decide) (fun c_1 => ?_) (fun c_1 => ?_)
  · skip
    have hq : (sX5_add I f0 a0) = (I, f0) := by first | (rw [sX5_add, if_pos c_1]; done) | simp only [sX5_add, if_pos c_1]
    exact jx_vret () hx hb hr hlocks hK hP hD hS (by rw [hq]) trivial dX5_add_37
  · skip
    refine lv_aload_n hx hb dX5_add_7 rfl (lv_at hl 0 rfl) ?_
    refine jx_get (v := .int (I 1)) hx hb hts iX5_add_5 hown hK hP 0 rfl rfl 1 (by decide) hk15 rfl rfl dX5_add_8 ?_
    refine lv_sipush (v := 160) hx hb dX5_add_11 (by decide) ?_
    refine lv_icmp_ge (tgt := 37) hx hb dX5_add_14 (by decide) (fun c_2 => ?_) (fun c_2 => ?_)
    · skip
      have hq : (sX5_add I f0 a0) = (I, f0) := by first | (rw [sX5_add, if_neg c_1, if_pos c_2]; done) | simp only [sX5_add, if_neg c_1, if_pos c_2]
      exact jx_vret () hx hb hr hlocks hK hP hD hS (by rw [hq]) trivial dX5_add_37
    · skip
      refine lv_aload_n hx hb dX5_add_17 rfl (lv_at hl 0 rfl) ?_
      refine jx_get (v := .ref (R 0)) hx hb hts iX5_add_5 hown hK hP 0 rfl rfl 0 (by decide) hk11 rfl rfl dX5_add_18 ?_
      refine lv_aload_n hx hb dX5_add_21 rfl (lv_at hl 0 rfl) ?_
      refine jx_get (v := .int (I 1)) hx hb hts iX5_add_5 hown hK hP 0 rfl rfl 1 (by decide) hk15 rfl rfl dX5_add_22 ?_
      refine lv_iload_n hx hb dX5_add_25 rfl (lv_at hl 1 rfl) ?_
      refine jx_iast (w2 := [(h, .inr (5, (oX5 R I L))), ((R 0), .inl (cI, 160, .inl (upd f0 (I 1).toNatClampNeg a0)))]) hx hb hK hP hD hS 1 0 rfl rfl (jx_inlt c_1 c_2 (by decide)) dX5_add_26 rfl (fun H locs hP hD hS => ?_)
      refine lv_aload_n hx hb dX5_add_27 rfl (lv_at hl 0 rfl) ?_
      refine lv_dup hx hb dX5_add_28 rfl ?_
      refine jx_get (v := .int (I 1)) hx hb hts iX5_add_5 hown hK hP 0 rfl rfl 1 (by decide) hk15 rfl rfl dX5_add_29 ?_
      refine lv_iconst (v := 1) hx hb dX5_add_32 (by decide) ?_
      refine lv_iadd hx hb dX5_add_33 ?_
      refine lv_topi (fun v_3 ev_3 => ?_)
      refine jx_put (w2 := [(h, .inr (5, (oX5 R (upd I 1 v_3) L))), ((R 0), .inl (cI, 160, .inl (upd f0 (I 1).toNatClampNeg a0)))]) hx hb hts iX5_add_5 tyX5 tyX5_ok nmX5 hown hK hP hD hS 0 rfl rfl 1 (by decide) hk15 rfl rfl rfl rfl (Nat.le_of_ble_eq_true rfl) dX5_add_34 rfl (fun H locs hP hD hS => ?_)
      have hq : (sX5_add I f0 a0) = ((upd I 1 v_3), (upd f0 (I 1).toNatClampNeg a0)) := by clear hP hD hl; subst ev_3; first | (rw [sX5_add, if_neg c_1, if_neg c_2]; done) | simp only [sX5_add, if_neg c_1, if_neg c_2]
      exact jx_vret () hx hb hr hlocks hK hP hD hS (by rw [hq]) trivial dX5_add_37
end
section
def sX1_has (L : Nat → Int64) (a0 : Int64) : Int32 := (if a0 < (0 : Int64) then (0 : Int32) else (if (L 7) ≤ a0 then (0 : Int32) else (1 : Int32)))
set_option maxRecDepth 20000 in
theorem iX1_has_1 : ∀ w ∈ wsX10, w ∈ wsX1_has := by decide +kernel
set_option maxHeartbeats 4000000 in
set_option maxRecDepth 100000 in
theorem kX1_has (l : Launch) (D : va_G) (cI cJ cZ cD : ClassId) (tA : Nat) (h : Nat) (R : Nat → Nat) (I : Nat → Int32) (L : Nat → Int64) (a0 : Int64) : jx_Ms l yX1_has wsX1_has ({ frames := 0, cells := 0, slots := 0, locals := 0 }) D (jT cI cJ cZ cD) tA [.ref h, .long a0] [(h, .inr (1, (oX1 R I L)))] (vp_Si (fun r => r = (sX1_has L a0))) := by
  refine jx_ofs (cc := cX1_has) (maxL := 3) (ret := (some .boolean)) (by decide +kernel) rfl (Nat.le_of_ble_eq_true rfl) ?_
  intro p e s m below meth c A ls hx hb hr hlocks hml hown hts hK hP hD hA hS hX hl
  have hl : lv_has ls 3 [(0, .ref h), (1, .long a0)] := hl
  have hown : s.vm.findClass RX1 = some m.cls := hown
  have hk37 := hts (.fieldLink RX1 37 "LoomDesk$Pattern" "picks" "J") (by decide +kernel)
  refine lv_lload_n hx hb dX1_has_0 rfl (lv_at hl 1 rfl) ?_
  refine lv_lconst (v := 0) hx hb dX1_has_1 (by decide) ?_
  refine jx_l_lt (tgt := 19) hx hb dX1_has_2 dX1_has_3 (by decide) (fun c_1 => ?_) (fun c_1 => ?_)
  · skip
    refine lv_iconst (v := 0) hx hb dX1_has_19 (by decide) ?_
    have hq : (sX1_has L a0) = (0 : Int32) := by first | (rw [sX1_has, if_pos c_1]; done) | simp only [sX1_has, if_pos c_1]
    exact jx_szret hx hb hr hlocks hq.symm (Or.inl rfl) dX1_has_20
  · skip
    refine lv_lload_n hx hb dX1_has_6 rfl (lv_at hl 1 rfl) ?_
    refine lv_aload_n hx hb dX1_has_7 rfl (lv_at hl 0 rfl) ?_
    refine jx_get (v := .long (L 7)) hx hb hts iX1_has_1 hown hK hP 0 rfl rfl 7 (by decide) hk37 rfl rfl dX1_has_8 ?_
    refine jx_l_ge (tgt := 19) hx hb dX1_has_11 dX1_has_12 (by decide) (fun c_2 => ?_) (fun c_2 => ?_)
    · skip
      refine lv_iconst (v := 0) hx hb dX1_has_19 (by decide) ?_
      have hq : (sX1_has L a0) = (0 : Int32) := by first | (rw [sX1_has, if_neg c_1, if_pos c_2]; done) | simp only [sX1_has, if_neg c_1, if_pos c_2]
      exact jx_szret hx hb hr hlocks hq.symm (Or.inl rfl) dX1_has_20
    · skip
      refine lv_iconst (v := 1) hx hb dX1_has_15 (by decide) ?_
      refine lv_goto (tgt := 20) hx hb dX1_has_16 (by decide) ?_
      have hq : (sX1_has L a0) = (1 : Int32) := by first | (rw [sX1_has, if_neg c_1, if_neg c_2]; done) | simp only [sX1_has, if_neg c_1, if_neg c_2]
      exact jx_szret hx hb hr hlocks hq.symm (Or.inr rfl) dX1_has_20

def sX1_behind (L : Nat → Int64) (a0 : Int64) : Int64 := (if (sX1_has L (a0 + (1 : Int64))) = 0 then (0 : Int64) else (a0 + (1 : Int64)))
set_option maxHeartbeats 4000000 in
set_option maxRecDepth 100000 in
theorem kX1_behind (l : Launch) (D : va_G) (cI cJ cZ cD : ClassId) (tA : Nat) (h : Nat) (R : Nat → Nat) (I : Nat → Int32) (L : Nat → Int64) (a0 : Int64) : jx_Ms l yX1_behind wsX1_behind ({ frames := 1, cells := 0, slots := 0, locals := 22 }) D (jT cI cJ cZ cD) tA [.ref h, .long a0] [(h, .inr (1, (oX1 R I L)))] (vp_Sl (fun r => r = (sX1_behind L a0))) := by
  refine jx_ofs (cc := cX1_behind) (maxL := 3) (ret := (some .long)) (by decide +kernel) rfl (Nat.le_of_ble_eq_true rfl) ?_
  intro p e s m below meth c A ls hx hb hr hlocks hml hown hts hK hP hD hA hS hX hl
  have hl : lv_has ls 3 [(0, .ref h), (1, .long a0)] := hl
  have hown : s.vm.findClass RX1 = some m.cls := hown
  refine lv_aload_n hx hb dX1_behind_0 rfl (lv_at hl 0 rfl) ?_
  refine lv_lload_n hx hb dX1_behind_1 rfl (lv_at hl 1 rfl) ?_
  refine lv_lconst (v := 1) hx hb dX1_behind_2 (by decide) ?_
  refine lv_ladd hx hb dX1_behind_3 ?_
  refine jx_pcalli (wc := [(h, .inr (1, (oX1 R I L)))]) hP hD hS hA [0] rfl (by decide) (fun hPc hDc hF => jx_runVs (As := [.long (a0 + (1 : Int64))]) (rest := []) (n := 1) (ci := 1) (q0 := 0) hx hb hml hown hts hK hX hS hl.1 (kX1_has l D cI cJ cZ cD tA h R I L (a0 + (1 : Int64))) gX1_behind_X1_has rfl rfl rfl (by decide +kernel) ⟨Nat.le_of_ble_eq_true rfl, Nat.le_of_ble_eq_true rfl⟩ rfl rfl rfl rfl rfl (Nat.le_of_ble_eq_true rfl) dX1_behind_4 ⟨Nat.zero_le _, Nat.zero_le _⟩ hPc hDc hF) (fun r_1 er_1 => ?_)
  have er_1 : r_1 = (sX1_has L (a0 + (1 : Int64))) := er_1
  refine lv_if_eq (tgt := 16) hx hb dX1_behind_7 (by decide) (fun c_2 => ?_) (fun c_2 => ?_)
  · skip
    refine lv_lconst (v := 0) hx hb dX1_behind_16 (by decide) ?_
    have hq : (sX1_behind L a0) = (0 : Int64) := by clear hP hD hl; subst er_1; first | (rw [sX1_behind, if_pos c_2]; done) | simp only [sX1_behind, if_pos c_2]
    exact jx_slret hx hb hr hlocks hq.symm dX1_behind_17
  · skip
    refine lv_lload_n hx hb dX1_behind_10 rfl (lv_at hl 1 rfl) ?_
    refine lv_lconst (v := 1) hx hb dX1_behind_11 (by decide) ?_
    refine lv_ladd hx hb dX1_behind_12 ?_
    refine lv_goto (tgt := 17) hx hb dX1_behind_13 (by decide) ?_
    have hq : (sX1_behind L a0) = (a0 + (1 : Int64)) := by clear hP hD hl; subst er_1; first | (rw [sX1_behind, if_neg c_2]; done) | simp only [sX1_behind, if_neg c_2]
    exact jx_slret hx hb hr hlocks hq.symm dX1_behind_17

def sX1_before (L : Nat → Int64) (a0 : Int64) : Int64 := (if (sX1_has L (a0 - (1 : Int64))) = 0 then (if (0 : Int64) < ((L 7) - (1 : Int64)) then ((L 7) - (1 : Int64)) else (0 : Int64)) else (a0 - (1 : Int64)))
set_option maxRecDepth 20000 in
theorem iX1_before_1 : ∀ w ∈ wsX10, w ∈ wsX1_before := by decide +kernel
set_option maxHeartbeats 4000000 in
set_option maxRecDepth 100000 in
theorem kX1_before (l : Launch) (D : va_G) (cI cJ cZ cD : ClassId) (tA : Nat) (h : Nat) (R : Nat → Nat) (I : Nat → Int32) (L : Nat → Int64) (a0 : Int64) : jx_Ms l yX1_before wsX1_before ({ frames := 1, cells := 0, slots := 0, locals := 23 }) D (jT cI cJ cZ cD) tA [.ref h, .long a0] [(h, .inr (1, (oX1 R I L)))] (vp_Sl (fun r => r = (sX1_before L a0))) := by
  refine jx_ofs (cc := cX1_before) (maxL := 3) (ret := (some .long)) (by decide +kernel) rfl (Nat.le_of_ble_eq_true rfl) ?_
  intro p e s m below meth c A ls hx hb hr hlocks hml hown hts hK hP hD hA hS hX hl
  have hl : lv_has ls 3 [(0, .ref h), (1, .long a0)] := hl
  have hown : s.vm.findClass RX1 = some m.cls := hown
  have hk37 := hts (.fieldLink RX1 37 "LoomDesk$Pattern" "picks" "J") (by decide +kernel)
  refine lv_aload_n hx hb dX1_before_0 rfl (lv_at hl 0 rfl) ?_
  refine lv_lload_n hx hb dX1_before_1 rfl (lv_at hl 1 rfl) ?_
  refine lv_lconst (v := 1) hx hb dX1_before_2 (by decide) ?_
  refine lv_lsub hx hb dX1_before_3 ?_
  refine jx_pcalli (wc := [(h, .inr (1, (oX1 R I L)))]) hP hD hS hA [0] rfl (by decide) (fun hPc hDc hF => jx_runVs (As := [.long (a0 - (1 : Int64))]) (rest := []) (n := 1) (ci := 1) (q0 := 0) hx hb hml hown hts hK hX hS hl.1 (kX1_has l D cI cJ cZ cD tA h R I L (a0 - (1 : Int64))) gX1_before_X1_has rfl rfl rfl (by decide +kernel) ⟨Nat.le_of_ble_eq_true rfl, Nat.le_of_ble_eq_true rfl⟩ rfl rfl rfl rfl rfl (Nat.le_of_ble_eq_true rfl) dX1_before_4 ⟨Nat.zero_le _, Nat.zero_le _⟩ hPc hDc hF) (fun r_1 er_1 => ?_)
  have er_1 : r_1 = (sX1_has L (a0 - (1 : Int64))) := er_1
  refine lv_if_eq (tgt := 16) hx hb dX1_before_7 (by decide) (fun c_2 => ?_) (fun c_2 => ?_)
  · skip
    refine lv_aload_n hx hb dX1_before_16 rfl (lv_at hl 0 rfl) ?_
    refine jx_get (v := .long (L 7)) hx hb hts iX1_before_1 hown hK hP 0 rfl rfl 7 (by decide) hk37 rfl rfl dX1_before_17 ?_
    refine lv_lconst (v := 1) hx hb dX1_before_20 (by decide) ?_
    refine lv_lsub hx hb dX1_before_21 ?_
    refine lv_lconst (v := 0) hx hb dX1_before_22 (by decide) ?_
    refine va_mmax_long hx hb (hml.trans hl.1.symm) hown (hts (.methodLink RX1 54 Lib.MathLoose.max_long.x) (by decide +kernel)) (hts (.static Lib.MathLoose.max_long.x) (by decide +kernel)) (hts (.initialized "java/lang/Math") (by decide +kernel)) (hts (.code Lib.MathLoose.max_long.x Lib.MathLoose.max_long.code 4 (some .long)) (by decide +kernel)) (Nat.le_of_ble_eq_true rfl) (Nat.le_of_ble_eq_true rfl) (Nat.zero_le _) (Nat.zero_le _) dX1_before_23 ?_
    have hq : (sX1_before L a0) = (if (0 : Int64) < ((L 7) - (1 : Int64)) then ((L 7) - (1 : Int64)) else (0 : Int64)) := by clear hP hD hl; subst er_1; first | (rw [sX1_before, if_pos c_2]; done) | simp only [sX1_before, if_pos c_2]
    exact jx_slret hx hb hr hlocks hq.symm dX1_before_26
  · skip
    refine lv_lload_n hx hb dX1_before_10 rfl (lv_at hl 1 rfl) ?_
    refine lv_lconst (v := 1) hx hb dX1_before_11 (by decide) ?_
    refine lv_lsub hx hb dX1_before_12 ?_
    refine lv_goto (tgt := 26) hx hb dX1_before_13 (by decide) ?_
    have hq : (sX1_before L a0) = (a0 - (1 : Int64)) := by clear hP hD hl; subst er_1; first | (rw [sX1_before, if_neg c_2]; done) | simp only [sX1_before, if_neg c_2]
    exact jx_slret hx hb hr hlocks hq.symm dX1_before_26

def sX1_clear (I : Nat → Int32) (L : Nat → Int64) : (Nat → Int32) × (Nat → Int64) := ((upd I 6 (0 : Int32)), (vp_updL L 7 (0 : Int64)))
set_option maxRecDepth 20000 in
theorem iX1_clear_1 : ∀ w ∈ wsX10, w ∈ wsX1_clear := by decide +kernel
set_option maxHeartbeats 4000000 in
set_option maxRecDepth 100000 in
theorem kX1_clear (l : Launch) (D : va_G) (cI cJ cZ cD : ClassId) (tA : Nat) (h : Nat) (R : Nat → Nat) (I : Nat → Int32) (L : Nat → Int64) : jx_M l yX1_clear wsX1_clear ({ frames := 0, cells := 0, slots := 0, locals := 0 }) D (jT cI cJ cZ cD) tA [.ref h] [(h, .inr (1, (oX1 R I L)))] (jx_Qv D (jT cI cJ cZ cD) (fun (_ : Unit) => True) (fun _ => [(h, .inr (1, (oX1 R (sX1_clear I L).1 (sX1_clear I L).2)))])) := by
  refine jx_of (cc := cX1_clear) (maxL := 1) (ret := none) (by decide +kernel) rfl (Nat.le_of_ble_eq_true rfl) ?_
  intro p e s m below meth c A ls hx hb hr hlocks hml hown hts hK hP hD hA hS hX hl
  have hl : lv_has ls 1 [(0, .ref h)] := hl
  have hown : s.vm.findClass RX1 = some m.cls := hown
  have hk33 := hts (.fieldLink RX1 33 "LoomDesk$Pattern" "size" "I") (by decide +kernel)
  have hk37 := hts (.fieldLink RX1 37 "LoomDesk$Pattern" "picks" "J") (by decide +kernel)
  refine lv_aload_n hx hb dX1_clear_0 rfl (lv_at hl 0 rfl) ?_
  refine lv_iconst (v := 0) hx hb dX1_clear_1 (by decide) ?_
  refine jx_put (w2 := [(h, .inr (1, (oX1 R (upd I 6 (0 : Int32)) L)))]) hx hb hts iX1_clear_1 tyX1 tyX1_ok nmX1 hown hK hP hD hS 0 rfl rfl 6 (by decide) hk33 rfl rfl rfl rfl (Nat.le_of_ble_eq_true rfl) dX1_clear_2 rfl (fun H locs hP hD hS => ?_)
  refine lv_aload_n hx hb dX1_clear_5 rfl (lv_at hl 0 rfl) ?_
  refine lv_lconst (v := 0) hx hb dX1_clear_6 (by decide) ?_
  refine jx_put (w2 := [(h, .inr (1, (oX1 R (upd I 6 (0 : Int32)) (vp_updL L 7 (0 : Int64)))))]) hx hb hts iX1_clear_1 tyX1 tyX1_ok nmX1 hown hK hP hD hS 0 rfl rfl 7 (by decide) hk37 rfl rfl rfl rfl (Nat.le_of_ble_eq_true rfl) dX1_clear_7 rfl (fun H locs hP hD hS => ?_)
  have hq : (sX1_clear I L) = ((upd I 6 (0 : Int32)), (vp_updL L 7 (0 : Int64))) := rfl
  exact jx_vret () hx hb hr hlocks hK hP hD hS (by rw [hq]) trivial dX1_clear_10

def sX1_add (I : Nat → Int32) (f0 : Nat → Int32) (f1 : Nat → Int32) (a0 : Int32) (a1 : Int32) : (Nat → Int32) × (Nat → Int32) × (Nat → Int32) := (if (I 6) < 0 then (I, f0, f1) else (if (I 6) < (80 : Int32) then ((upd I 6 ((I 6) + (1 : Int32))), (upd f0 (I 6).toNatClampNeg a0), (upd f1 (I 6).toNatClampNeg a1)) else (I, f0, f1)))
set_option maxRecDepth 20000 in
theorem iX1_add_1 : ∀ w ∈ wsX10, w ∈ wsX1_add := by decide +kernel
set_option maxHeartbeats 4000000 in
set_option maxRecDepth 100000 in
theorem kX1_add (l : Launch) (D : va_G) (cI cJ cZ cD : ClassId) (tA : Nat) (h : Nat) (R : Nat → Nat) (I : Nat → Int32) (L : Nat → Int64) (f0 : Nat → Int32) (f1 : Nat → Int32) (f2 : Nat → Int32) (f3 : Nat → Int64) (f4 : Nat → Int32) (f5 : Nat → Int32) (a0 : Int32) (a1 : Int32) : jx_M l yX1_add wsX1_add ({ frames := 0, cells := 0, slots := 0, locals := 0 }) D (jT cI cJ cZ cD) tA [.ref h, .int a0, .int a1] [(h, .inr (1, (oX1 R I L))), ((R 0), .inl (cI, 80, .inl f0)), ((R 1), .inl (cI, 80, .inl f1)), ((R 2), .inl (cI, 80, .inl f2)), ((R 3), .inl (cJ, 80, .inr (.inl f3))), ((R 4), .inl (cI, 80, .inl f4)), ((R 5), .inl (cI, 80, .inl f5))] (jx_Qv D (jT cI cJ cZ cD) (fun (_ : Unit) => True) (fun _ => [(h, .inr (1, (oX1 R (sX1_add I f0 f1 a0 a1).1 L))), ((R 0), .inl (cI, 80, .inl ((sX1_add I f0 f1 a0 a1).2.1))), ((R 1), .inl (cI, 80, .inl ((sX1_add I f0 f1 a0 a1).2.2))), ((R 2), .inl (cI, 80, .inl f2)), ((R 3), .inl (cJ, 80, .inr (.inl f3))), ((R 4), .inl (cI, 80, .inl f4)), ((R 5), .inl (cI, 80, .inl f5))])) := by
  refine jx_of (cc := cX1_add) (maxL := 3) (ret := none) (by decide +kernel) rfl (Nat.le_of_ble_eq_true rfl) ?_
  intro p e s m below meth c A ls hx hb hr hlocks hml hown hts hK hP hD hA hS hX hl
  have hl : lv_has ls 3 [(0, .ref h), (1, .int a0), (2, .int a1)] := hl
  have hown : s.vm.findClass RX1 = some m.cls := hown
  have hk13 := hts (.fieldLink RX1 13 "LoomDesk$Pattern" "kinds" "[I") (by decide +kernel)
  have hk17 := hts (.fieldLink RX1 17 "LoomDesk$Pattern" "values" "[I") (by decide +kernel)
  have hk33 := hts (.fieldLink RX1 33 "LoomDesk$Pattern" "size" "I") (by decide +kernel)
  refine lv_aload_n hx hb dX1_add_0 rfl (lv_at hl 0 rfl) ?_
  refine jx_get (v := .int (I 6)) hx hb hts iX1_add_1 hown hK hP 0 rfl rfl 6 (by decide) hk33 rfl rfl dX1_add_1 ?_
  refine lv_if_lt (tgt := 16) hx hb dX1_add_4 (by decide) (fun c_1 => ?_) (fun c_1 => ?_)
  · skip
    have hq : (sX1_add I f0 f1 a0 a1) = (I, f0, f1) := by first | (rw [sX1_add, if_pos c_1]; done) | simp only [sX1_add, if_pos c_1]
    exact jx_vret () hx hb hr hlocks hK hP hD hS (by rw [hq]) trivial dX1_add_16
  · skip
    refine lv_aload_n hx hb dX1_add_7 rfl (lv_at hl 0 rfl) ?_
    refine jx_get (v := .int (I 6)) hx hb hts iX1_add_1 hown hK hP 0 rfl rfl 6 (by decide) hk33 rfl rfl dX1_add_8 ?_
    refine lv_bipush (v := 80) hx hb dX1_add_11 (by decide) ?_
    refine lv_icmp_lt (tgt := 17) hx hb dX1_add_13 (by decide) (fun c_2 => ?_) (fun c_2 => ?_)
    · skip
      refine lv_aload_n hx hb dX1_add_17 rfl (lv_at hl 0 rfl) ?_
      refine jx_get (v := .ref (R 0)) hx hb hts iX1_add_1 hown hK hP 0 rfl rfl 0 (by decide) hk13 rfl rfl dX1_add_18 ?_
      refine lv_aload_n hx hb dX1_add_21 rfl (lv_at hl 0 rfl) ?_
      refine jx_get (v := .int (I 6)) hx hb hts iX1_add_1 hown hK hP 0 rfl rfl 6 (by decide) hk33 rfl rfl dX1_add_22 ?_
      refine lv_iload_n hx hb dX1_add_25 rfl (lv_at hl 1 rfl) ?_
      refine jx_iast (w2 := [(h, .inr (1, (oX1 R I L))), ((R 0), .inl (cI, 80, .inl (upd f0 (I 6).toNatClampNeg a0))), ((R 1), .inl (cI, 80, .inl f1)), ((R 2), .inl (cI, 80, .inl f2)), ((R 3), .inl (cJ, 80, .inr (.inl f3))), ((R 4), .inl (cI, 80, .inl f4)), ((R 5), .inl (cI, 80, .inl f5))]) hx hb hK hP hD hS 1 0 rfl rfl (jx_inlu c_1 c_2 (by decide)) dX1_add_26 rfl (fun H locs hP hD hS => ?_)
      refine lv_aload_n hx hb dX1_add_27 rfl (lv_at hl 0 rfl) ?_
      refine jx_get (v := .ref (R 1)) hx hb hts iX1_add_1 hown hK hP 0 rfl rfl 1 (by decide) hk17 rfl rfl dX1_add_28 ?_
      refine lv_aload_n hx hb dX1_add_31 rfl (lv_at hl 0 rfl) ?_
      refine jx_get (v := .int (I 6)) hx hb hts iX1_add_1 hown hK hP 0 rfl rfl 6 (by decide) hk33 rfl rfl dX1_add_32 ?_
      refine lv_iload_n hx hb dX1_add_35 rfl (lv_at hl 2 rfl) ?_
      refine jx_iast (w2 := [(h, .inr (1, (oX1 R I L))), ((R 0), .inl (cI, 80, .inl (upd f0 (I 6).toNatClampNeg a0))), ((R 1), .inl (cI, 80, .inl (upd f1 (I 6).toNatClampNeg a1))), ((R 2), .inl (cI, 80, .inl f2)), ((R 3), .inl (cJ, 80, .inr (.inl f3))), ((R 4), .inl (cI, 80, .inl f4)), ((R 5), .inl (cI, 80, .inl f5))]) hx hb hK hP hD hS 2 0 rfl rfl (jx_inlu c_1 c_2 (by decide)) dX1_add_36 rfl (fun H locs hP hD hS => ?_)
      refine lv_aload_n hx hb dX1_add_37 rfl (lv_at hl 0 rfl) ?_
      refine lv_dup hx hb dX1_add_38 rfl ?_
      refine jx_get (v := .int (I 6)) hx hb hts iX1_add_1 hown hK hP 0 rfl rfl 6 (by decide) hk33 rfl rfl dX1_add_39 ?_
      refine lv_iconst (v := 1) hx hb dX1_add_42 (by decide) ?_
      refine lv_iadd hx hb dX1_add_43 ?_
      refine lv_topi (fun v_3 ev_3 => ?_)
      refine jx_put (w2 := [(h, .inr (1, (oX1 R (upd I 6 v_3) L))), ((R 0), .inl (cI, 80, .inl (upd f0 (I 6).toNatClampNeg a0))), ((R 1), .inl (cI, 80, .inl (upd f1 (I 6).toNatClampNeg a1))), ((R 2), .inl (cI, 80, .inl f2)), ((R 3), .inl (cJ, 80, .inr (.inl f3))), ((R 4), .inl (cI, 80, .inl f4)), ((R 5), .inl (cI, 80, .inl f5))]) hx hb hts iX1_add_1 tyX1 tyX1_ok nmX1 hown hK hP hD hS 0 rfl rfl 6 (by decide) hk33 rfl rfl rfl rfl (Nat.le_of_ble_eq_true rfl) dX1_add_44 rfl (fun H locs hP hD hS => ?_)
      have hq : (sX1_add I f0 f1 a0 a1) = ((upd I 6 v_3), (upd f0 (I 6).toNatClampNeg a0), (upd f1 (I 6).toNatClampNeg a1)) := by clear hP hD hl; subst ev_3; first | (rw [sX1_add, if_neg c_1, if_pos c_2]; done) | simp only [sX1_add, if_neg c_1, if_pos c_2]
      exact jx_vret () hx hb hr hlocks hK hP hD hS (by rw [hq]) trivial dX1_add_47
    · skip
      have hq : (sX1_add I f0 f1 a0 a1) = (I, f0, f1) := by first | (rw [sX1_add, if_neg c_1, if_neg c_2]; done) | simp only [sX1_add, if_neg c_1, if_neg c_2]
      exact jx_vret () hx hb hr hlocks hK hP hD hS (by rw [hq]) trivial dX1_add_16

def sX1_end (I : Nat → Int32) (f1 : Nat → Int32) (f2 : Nat → Int32) (f3 : Nat → Int64) (f4 : Nat → Int32) (f5 : Nat → Int32) (a0 : Int32) (a1 : Int64) (a2 : Int32) (a3 : Int32) : Int32 × (Nat → Int32) × (Nat → Int64) × (Nat → Int32) × (Nat → Int32) := (if a0 < 0 then ((0 : Int32), f2, f3, f4, f5) else (if a0 < (I 6) then ((f1 a0.toNatClampNeg), (upd f2 a0.toNatClampNeg (I 6)), (vp_updL f3 a0.toNatClampNeg a1), (upd f4 a0.toNatClampNeg a2), (upd f5 a0.toNatClampNeg a3)) else ((0 : Int32), f2, f3, f4, f5)))
set_option maxRecDepth 20000 in
theorem iX1_end_1 : ∀ w ∈ wsX10, w ∈ wsX1_end := by decide +kernel
set_option maxHeartbeats 4000000 in
set_option maxRecDepth 100000 in
theorem kX1_end (l : Launch) (D : va_G) (cI cJ cZ cD : ClassId) (tA : Nat) (h : Nat) (R : Nat → Nat) (I : Nat → Int32) (L : Nat → Int64) (f0 : Nat → Int32) (f1 : Nat → Int32) (f2 : Nat → Int32) (f3 : Nat → Int64) (f4 : Nat → Int32) (f5 : Nat → Int32) (a0 : Int32) (a1 : Int64) (a2 : Int32) (a3 : Int32) (hs : (I 6).toInt ≤ 80) : jx_M l yX1_end wsX1_end ({ frames := 0, cells := 0, slots := 0, locals := 0 }) D (jT cI cJ cZ cD) tA [.ref h, .int a0, .long a1, .int a2, .int a3] [(h, .inr (1, (oX1 R I L))), ((R 0), .inl (cI, 80, .inl f0)), ((R 1), .inl (cI, 80, .inl f1)), ((R 2), .inl (cI, 80, .inl f2)), ((R 3), .inl (cJ, 80, .inr (.inl f3))), ((R 4), .inl (cI, 80, .inl f4)), ((R 5), .inl (cI, 80, .inl f5))] (jx_Qi D (jT cI cJ cZ cD) (fun r (_ : Unit) => r = (sX1_end I f1 f2 f3 f4 f5 a0 a1 a2 a3).1) (fun _ => [(h, .inr (1, (oX1 R I L))), ((R 0), .inl (cI, 80, .inl f0)), ((R 1), .inl (cI, 80, .inl f1)), ((R 2), .inl (cI, 80, .inl ((sX1_end I f1 f2 f3 f4 f5 a0 a1 a2 a3).2.1))), ((R 3), .inl (cJ, 80, .inr (.inl ((sX1_end I f1 f2 f3 f4 f5 a0 a1 a2 a3).2.2.1)))), ((R 4), .inl (cI, 80, .inl ((sX1_end I f1 f2 f3 f4 f5 a0 a1 a2 a3).2.2.2.1))), ((R 5), .inl (cI, 80, .inl ((sX1_end I f1 f2 f3 f4 f5 a0 a1 a2 a3).2.2.2.2)))])) := by
  refine jx_of (cc := cX1_end) (maxL := 6) (ret := (some .int)) (by decide +kernel) rfl (Nat.le_of_ble_eq_true rfl) ?_
  intro p e s m below meth c A ls hx hb hr hlocks hml hown hts hK hP hD hA hS hX hl
  have hl : lv_has ls 6 [(0, .ref h), (1, .int a0), (2, .long a1), (4, .int a2), (5, .int a3)] := hl
  have hown : s.vm.findClass RX1 = some m.cls := hown
  have hk17 := hts (.fieldLink RX1 17 "LoomDesk$Pattern" "values" "[I") (by decide +kernel)
  have hk20 := hts (.fieldLink RX1 20 "LoomDesk$Pattern" "ends" "[I") (by decide +kernel)
  have hk23 := hts (.fieldLink RX1 23 "LoomDesk$Pattern" "insides" "[J") (by decide +kernel)
  have hk27 := hts (.fieldLink RX1 27 "LoomDesk$Pattern" "carriers" "[I") (by decide +kernel)
  have hk30 := hts (.fieldLink RX1 30 "LoomDesk$Pattern" "densities" "[I") (by decide +kernel)
  have hk33 := hts (.fieldLink RX1 33 "LoomDesk$Pattern" "size" "I") (by decide +kernel)
  refine lv_iload_n hx hb dX1_end_0 rfl (lv_at hl 1 rfl) ?_
  refine lv_if_lt (tgt := 12) hx hb dX1_end_1 (by decide) (fun c_1 => ?_) (fun c_1 => ?_)
  · skip
    refine lv_iconst (v := 0) hx hb dX1_end_12 (by decide) ?_
    have hq : (sX1_end I f1 f2 f3 f4 f5 a0 a1 a2 a3) = ((0 : Int32), f2, f3, f4, f5) := by first | (rw [sX1_end, if_pos c_1]; done) | simp only [sX1_end, if_pos c_1]
    exact jx_iret () hx hb hr hlocks hK hP hD hS (by rw [hq]) (by rw [hq]) dX1_end_13
  · skip
    refine lv_iload_n hx hb dX1_end_4 rfl (lv_at hl 1 rfl) ?_
    refine lv_aload_n hx hb dX1_end_5 rfl (lv_at hl 0 rfl) ?_
    refine jx_get (v := .int (I 6)) hx hb hts iX1_end_1 hown hK hP 0 rfl rfl 6 (by decide) hk33 rfl rfl dX1_end_6 ?_
    refine lv_icmp_lt (tgt := 14) hx hb dX1_end_9 (by decide) (fun c_2 => ?_) (fun c_2 => ?_)
    · skip
      refine lv_aload_n hx hb dX1_end_14 rfl (lv_at hl 0 rfl) ?_
      refine jx_get (v := .ref (R 2)) hx hb hts iX1_end_1 hown hK hP 0 rfl rfl 2 (by decide) hk20 rfl rfl dX1_end_15 ?_
      refine lv_iload_n hx hb dX1_end_18 rfl (lv_at hl 1 rfl) ?_
      refine lv_aload_n hx hb dX1_end_19 rfl (lv_at hl 0 rfl) ?_
      refine jx_get (v := .int (I 6)) hx hb hts iX1_end_1 hown hK hP 0 rfl rfl 6 (by decide) hk33 rfl rfl dX1_end_20 ?_
      refine jx_iast (w2 := [(h, .inr (1, (oX1 R I L))), ((R 0), .inl (cI, 80, .inl f0)), ((R 1), .inl (cI, 80, .inl f1)), ((R 2), .inl (cI, 80, .inl (upd f2 a0.toNatClampNeg (I 6)))), ((R 3), .inl (cJ, 80, .inr (.inl f3))), ((R 4), .inl (cI, 80, .inl f4)), ((R 5), .inl (cI, 80, .inl f5))]) hx hb hK hP hD hS 3 0 rfl rfl (jx_inlu c_1 c_2 hs) dX1_end_23 rfl (fun H locs hP hD hS => ?_)
      refine lv_aload_n hx hb dX1_end_24 rfl (lv_at hl 0 rfl) ?_
      refine jx_get (v := .ref (R 3)) hx hb hts iX1_end_1 hown hK hP 0 rfl rfl 3 (by decide) hk23 rfl rfl dX1_end_25 ?_
      refine lv_iload_n hx hb dX1_end_28 rfl (lv_at hl 1 rfl) ?_
      refine lv_lload_n hx hb dX1_end_29 rfl (lv_at hl 2 rfl) ?_
      refine jx_last (w2 := [(h, .inr (1, (oX1 R I L))), ((R 0), .inl (cI, 80, .inl f0)), ((R 1), .inl (cI, 80, .inl f1)), ((R 2), .inl (cI, 80, .inl (upd f2 a0.toNatClampNeg (I 6)))), ((R 3), .inl (cJ, 80, .inr (.inl (vp_updL f3 a0.toNatClampNeg a1)))), ((R 4), .inl (cI, 80, .inl f4)), ((R 5), .inl (cI, 80, .inl f5))]) hx hb hK hP hD hS 4 1 rfl rfl (jx_inlu c_1 c_2 hs) dX1_end_30 rfl (fun H locs hP hD hS => ?_)
      refine lv_aload_n hx hb dX1_end_31 rfl (lv_at hl 0 rfl) ?_
      refine jx_get (v := .ref (R 4)) hx hb hts iX1_end_1 hown hK hP 0 rfl rfl 4 (by decide) hk27 rfl rfl dX1_end_32 ?_
      refine lv_iload_n hx hb dX1_end_35 rfl (lv_at hl 1 rfl) ?_
      refine lv_iload hx hb dX1_end_36 (lv_at hl 3 rfl) ?_
      refine jx_iast (w2 := [(h, .inr (1, (oX1 R I L))), ((R 0), .inl (cI, 80, .inl f0)), ((R 1), .inl (cI, 80, .inl f1)), ((R 2), .inl (cI, 80, .inl (upd f2 a0.toNatClampNeg (I 6)))), ((R 3), .inl (cJ, 80, .inr (.inl (vp_updL f3 a0.toNatClampNeg a1)))), ((R 4), .inl (cI, 80, .inl (upd f4 a0.toNatClampNeg a2))), ((R 5), .inl (cI, 80, .inl f5))]) hx hb hK hP hD hS 5 0 rfl rfl (jx_inlu c_1 c_2 hs) dX1_end_38 rfl (fun H locs hP hD hS => ?_)
      refine lv_aload_n hx hb dX1_end_39 rfl (lv_at hl 0 rfl) ?_
      refine jx_get (v := .ref (R 5)) hx hb hts iX1_end_1 hown hK hP 0 rfl rfl 5 (by decide) hk30 rfl rfl dX1_end_40 ?_
      refine lv_iload_n hx hb dX1_end_43 rfl (lv_at hl 1 rfl) ?_
      refine lv_iload hx hb dX1_end_44 (lv_at hl 4 rfl) ?_
      refine jx_iast (w2 := [(h, .inr (1, (oX1 R I L))), ((R 0), .inl (cI, 80, .inl f0)), ((R 1), .inl (cI, 80, .inl f1)), ((R 2), .inl (cI, 80, .inl (upd f2 a0.toNatClampNeg (I 6)))), ((R 3), .inl (cJ, 80, .inr (.inl (vp_updL f3 a0.toNatClampNeg a1)))), ((R 4), .inl (cI, 80, .inl (upd f4 a0.toNatClampNeg a2))), ((R 5), .inl (cI, 80, .inl (upd f5 a0.toNatClampNeg a3)))]) hx hb hK hP hD hS 6 0 rfl rfl (jx_inlu c_1 c_2 hs) dX1_end_46 rfl (fun H locs hP hD hS => ?_)
      refine lv_aload_n hx hb dX1_end_47 rfl (lv_at hl 0 rfl) ?_
      refine jx_get (v := .ref (R 1)) hx hb hts iX1_end_1 hown hK hP 0 rfl rfl 1 (by decide) hk17 rfl rfl dX1_end_48 ?_
      refine lv_iload_n hx hb dX1_end_51 rfl (lv_at hl 1 rfl) ?_
      refine va_iald hx hb hK hP 2 0 rfl rfl (jx_inlu c_1 c_2 hs) dX1_end_52 ?_
      have hq : (sX1_end I f1 f2 f3 f4 f5 a0 a1 a2 a3) = ((f1 a0.toNatClampNeg), (upd f2 a0.toNatClampNeg (I 6)), (vp_updL f3 a0.toNatClampNeg a1), (upd f4 a0.toNatClampNeg a2), (upd f5 a0.toNatClampNeg a3)) := by first | (rw [sX1_end, if_neg c_1, if_pos c_2]; done) | simp only [sX1_end, if_neg c_1, if_pos c_2]
      exact jx_iret () hx hb hr hlocks hK hP hD hS (by rw [hq]) (by rw [hq]) dX1_end_53
    · skip
      refine lv_iconst (v := 0) hx hb dX1_end_12 (by decide) ?_
      have hq : (sX1_end I f1 f2 f3 f4 f5 a0 a1 a2 a3) = ((0 : Int32), f2, f3, f4, f5) := by first | (rw [sX1_end, if_neg c_1, if_neg c_2]; done) | simp only [sX1_end, if_neg c_1, if_neg c_2]
      exact jx_iret () hx hb hr hlocks hK hP hD hS (by rw [hq]) (by rw [hq]) dX1_end_13

def sX1_tellHere (I : Nat → Int32) (a0 : Int32) (a1 : Int32) : Int32 := (if a1 = (0 : Int32) then a0 else (if a1 = (1 : Int32) then (I 9) else (if a1 = (2 : Int32) then (I 10) else (-1 : Int32))))
set_option maxRecDepth 20000 in
theorem iX1_tellHere_1 : ∀ w ∈ wsX10, w ∈ wsX1_tellHere := by decide +kernel
set_option maxHeartbeats 4000000 in
set_option maxRecDepth 100000 in
theorem kX1_tellHere (l : Launch) (D : va_G) (cI cJ cZ cD : ClassId) (tA : Nat) (h : Nat) (R : Nat → Nat) (I : Nat → Int32) (L : Nat → Int64) (a0 : Int32) (a1 : Int32) : jx_Ms l yX1_tellHere wsX1_tellHere ({ frames := 0, cells := 0, slots := 0, locals := 0 }) D (jT cI cJ cZ cD) tA [.ref h, .int a0, .int a1] [(h, .inr (1, (oX1 R I L)))] (vp_Si (fun r => r = (sX1_tellHere I a0 a1))) := by
  refine jx_ofs (cc := cX1_tellHere) (maxL := 3) (ret := (some .int)) (by decide +kernel) rfl (Nat.le_of_ble_eq_true rfl) ?_
  intro p e s m below meth c A ls hx hb hr hlocks hml hown hts hK hP hD hA hS hX hl
  have hl : lv_has ls 3 [(0, .ref h), (1, .int a0), (2, .int a1)] := hl
  have hown : s.vm.findClass RX1 = some m.cls := hown
  have hk44 := hts (.fieldLink RX1 44 "LoomDesk$Pattern" "carrier" "I") (by decide +kernel)
  have hk47 := hts (.fieldLink RX1 47 "LoomDesk$Pattern" "density" "I") (by decide +kernel)
  refine lv_iload_n hx hb dX1_tellHere_0 rfl (lv_at hl 2 rfl) ?_
  by_cases c_1 : a1 = (0 : Int32)
  · skip
    refine lv_tableIn (off := 27) (tgt := 28) hx hb dX1_tellHere_1 (by rw [c_1]; decide) (by rw [c_1]; decide) (by rw [c_1]; rfl) (by decide) ?_
    refine lv_iload_n hx hb dX1_tellHere_28 rfl (lv_at hl 1 rfl) ?_
    have hq : (sX1_tellHere I a0 a1) = a0 := by first | (rw [sX1_tellHere, if_pos c_1]; done) | simp only [sX1_tellHere, if_pos c_1]
    exact jx_siret hx hb hr hlocks hq.symm dX1_tellHere_29
  by_cases c_2 : a1 = (1 : Int32)
  · skip
    refine lv_tableIn (off := 29) (tgt := 30) hx hb dX1_tellHere_1 (by rw [c_2]; decide) (by rw [c_2]; decide) (by rw [c_2]; rfl) (by decide) ?_
    refine lv_aload_n hx hb dX1_tellHere_30 rfl (lv_at hl 0 rfl) ?_
    refine jx_get (v := .int (I 9)) hx hb hts iX1_tellHere_1 hown hK hP 0 rfl rfl 9 (by decide) hk44 rfl rfl dX1_tellHere_31 ?_
    have hq : (sX1_tellHere I a0 a1) = (I 9) := by first | (rw [sX1_tellHere, if_neg c_1, if_pos c_2]; done) | simp only [sX1_tellHere, if_neg c_1, if_pos c_2]
    exact jx_siret hx hb hr hlocks hq.symm dX1_tellHere_34
  by_cases c_3 : a1 = (2 : Int32)
  · skip
    refine lv_tableIn (off := 34) (tgt := 35) hx hb dX1_tellHere_1 (by rw [c_3]; decide) (by rw [c_3]; decide) (by rw [c_3]; rfl) (by decide) ?_
    refine lv_aload_n hx hb dX1_tellHere_35 rfl (lv_at hl 0 rfl) ?_
    refine jx_get (v := .int (I 10)) hx hb hts iX1_tellHere_1 hown hK hP 0 rfl rfl 10 (by decide) hk47 rfl rfl dX1_tellHere_36 ?_
    have hq : (sX1_tellHere I a0 a1) = (I 10) := by first | (rw [sX1_tellHere, if_neg c_1, if_neg c_2, if_pos c_3]; done) | simp only [sX1_tellHere, if_neg c_1, if_neg c_2, if_pos c_3]
    exact jx_siret hx hb hr hlocks hq.symm dX1_tellHere_39
  have hout : a1.toInt < 0 ∨ 2 < a1.toInt := by
    have z0 := lv_neT c_1 (show (0 : Int32).toInt = 0 by decide)
    have z1 := lv_neT c_2 (show (1 : Int32).toInt = 1 by decide)
    have z2 := lv_neT c_3 (show (2 : Int32).toInt = 2 by decide)
    omega
  refine lv_tableOut (tgt := 40) hx hb dX1_tellHere_1 hout (by decide) ?_
  refine lv_iconst (v := -1) hx hb dX1_tellHere_40 (by decide) ?_
  have hq : (sX1_tellHere I a0 a1) = (-1 : Int32) := by first | (rw [sX1_tellHere, if_neg c_1, if_neg c_2, if_neg c_3]; done) | simp only [sX1_tellHere, if_neg c_1, if_neg c_2, if_neg c_3]
  exact jx_siret hx hb hr hlocks hq.symm dX1_tellHere_41

def sX1_passBracket (I : Nat → Int32) (L : Nat → Int64) (f0 : Nat → Int32) (f1 : Nat → Int32) (f2 : Nat → Int32) (f3 : Nat → Int64) (f4 : Nat → Int32) (f5 : Nat → Int32) (a0 : Int32) : Int32 × (Nat → Int32) × (Nat → Int64) := (if (f3 a0.toNatClampNeg) ≤ (L 8) then (if (f0 a0.toNatClampNeg) = (4 : Int32) then (if ((f3 a0.toNatClampNeg) * (f1 a0.toNatClampNeg).toInt64) ≤ (L 8) then (if (f4 a0.toNatClampNeg) = (-1 : Int32) then (if (f5 a0.toNatClampNeg) = (-1 : Int32) then (if ((f3 a0.toNatClampNeg) * (f1 a0.toNatClampNeg).toInt64) ≤ (L 8) then ((f2 a0.toNatClampNeg), I, (vp_updL L 8 ((L 8) - ((f3 a0.toNatClampNeg) * (f1 a0.toNatClampNeg).toInt64)))) else (if (f3 a0.toNatClampNeg) ≤ (0 : Int64) then ((f2 a0.toNatClampNeg), I, (vp_updL L 8 ((L 8) - ((f3 a0.toNatClampNeg) * (f1 a0.toNatClampNeg).toInt64)))) else ((a0 + (1 : Int32)), I, (vp_updL L 8 ((L 8) - (L 8) / (f3 a0.toNatClampNeg) * (f3 a0.toNatClampNeg)))))) else (if ((f3 a0.toNatClampNeg) * (f1 a0.toNatClampNeg).toInt64) ≤ (L 8) then ((f2 a0.toNatClampNeg), (upd I 10 (f5 a0.toNatClampNeg)), (vp_updL L 8 ((L 8) - ((f3 a0.toNatClampNeg) * (f1 a0.toNatClampNeg).toInt64)))) else (if (f3 a0.toNatClampNeg) ≤ (0 : Int64) then ((f2 a0.toNatClampNeg), (upd I 10 (f5 a0.toNatClampNeg)), (vp_updL L 8 ((L 8) - ((f3 a0.toNatClampNeg) * (f1 a0.toNatClampNeg).toInt64)))) else ((a0 + (1 : Int32)), (upd I 10 (f5 a0.toNatClampNeg)), (vp_updL L 8 ((L 8) - (L 8) / (f3 a0.toNatClampNeg) * (f3 a0.toNatClampNeg))))))) else (if (f5 a0.toNatClampNeg) = (-1 : Int32) then (if ((f3 a0.toNatClampNeg) * (f1 a0.toNatClampNeg).toInt64) ≤ (L 8) then ((f2 a0.toNatClampNeg), (upd I 9 (f4 a0.toNatClampNeg)), (vp_updL L 8 ((L 8) - ((f3 a0.toNatClampNeg) * (f1 a0.toNatClampNeg).toInt64)))) else (if (f3 a0.toNatClampNeg) ≤ (0 : Int64) then ((f2 a0.toNatClampNeg), (upd I 9 (f4 a0.toNatClampNeg)), (vp_updL L 8 ((L 8) - ((f3 a0.toNatClampNeg) * (f1 a0.toNatClampNeg).toInt64)))) else ((a0 + (1 : Int32)), (upd I 9 (f4 a0.toNatClampNeg)), (vp_updL L 8 ((L 8) - (L 8) / (f3 a0.toNatClampNeg) * (f3 a0.toNatClampNeg)))))) else (if ((f3 a0.toNatClampNeg) * (f1 a0.toNatClampNeg).toInt64) ≤ (L 8) then ((f2 a0.toNatClampNeg), (upd (upd I 9 (f4 a0.toNatClampNeg)) 10 (f5 a0.toNatClampNeg)), (vp_updL L 8 ((L 8) - ((f3 a0.toNatClampNeg) * (f1 a0.toNatClampNeg).toInt64)))) else (if (f3 a0.toNatClampNeg) ≤ (0 : Int64) then ((f2 a0.toNatClampNeg), (upd (upd I 9 (f4 a0.toNatClampNeg)) 10 (f5 a0.toNatClampNeg)), (vp_updL L 8 ((L 8) - ((f3 a0.toNatClampNeg) * (f1 a0.toNatClampNeg).toInt64)))) else ((a0 + (1 : Int32)), (upd (upd I 9 (f4 a0.toNatClampNeg)) 10 (f5 a0.toNatClampNeg)), (vp_updL L 8 ((L 8) - (L 8) / (f3 a0.toNatClampNeg) * (f3 a0.toNatClampNeg)))))))) else ((a0 + (1 : Int32)), I, (vp_updL L 8 ((((f3 a0.toNatClampNeg) * (f1 a0.toNatClampNeg).toInt64) - (1 : Int64)) - (L 8))))) else (if (f4 a0.toNatClampNeg) = (-1 : Int32) then (if (f5 a0.toNatClampNeg) = (-1 : Int32) then (if ((f3 a0.toNatClampNeg) * (f1 a0.toNatClampNeg).toInt64) ≤ (L 8) then ((f2 a0.toNatClampNeg), I, (vp_updL L 8 ((L 8) - ((f3 a0.toNatClampNeg) * (f1 a0.toNatClampNeg).toInt64)))) else (if (f3 a0.toNatClampNeg) ≤ (0 : Int64) then ((f2 a0.toNatClampNeg), I, (vp_updL L 8 ((L 8) - ((f3 a0.toNatClampNeg) * (f1 a0.toNatClampNeg).toInt64)))) else ((a0 + (1 : Int32)), I, (vp_updL L 8 ((L 8) - (L 8) / (f3 a0.toNatClampNeg) * (f3 a0.toNatClampNeg)))))) else (if ((f3 a0.toNatClampNeg) * (f1 a0.toNatClampNeg).toInt64) ≤ (L 8) then ((f2 a0.toNatClampNeg), (upd I 10 (f5 a0.toNatClampNeg)), (vp_updL L 8 ((L 8) - ((f3 a0.toNatClampNeg) * (f1 a0.toNatClampNeg).toInt64)))) else (if (f3 a0.toNatClampNeg) ≤ (0 : Int64) then ((f2 a0.toNatClampNeg), (upd I 10 (f5 a0.toNatClampNeg)), (vp_updL L 8 ((L 8) - ((f3 a0.toNatClampNeg) * (f1 a0.toNatClampNeg).toInt64)))) else ((a0 + (1 : Int32)), (upd I 10 (f5 a0.toNatClampNeg)), (vp_updL L 8 ((L 8) - (L 8) / (f3 a0.toNatClampNeg) * (f3 a0.toNatClampNeg))))))) else (if (f5 a0.toNatClampNeg) = (-1 : Int32) then (if ((f3 a0.toNatClampNeg) * (f1 a0.toNatClampNeg).toInt64) ≤ (L 8) then ((f2 a0.toNatClampNeg), (upd I 9 (f4 a0.toNatClampNeg)), (vp_updL L 8 ((L 8) - ((f3 a0.toNatClampNeg) * (f1 a0.toNatClampNeg).toInt64)))) else (if (f3 a0.toNatClampNeg) ≤ (0 : Int64) then ((f2 a0.toNatClampNeg), (upd I 9 (f4 a0.toNatClampNeg)), (vp_updL L 8 ((L 8) - ((f3 a0.toNatClampNeg) * (f1 a0.toNatClampNeg).toInt64)))) else ((a0 + (1 : Int32)), (upd I 9 (f4 a0.toNatClampNeg)), (vp_updL L 8 ((L 8) - (L 8) / (f3 a0.toNatClampNeg) * (f3 a0.toNatClampNeg)))))) else (if ((f3 a0.toNatClampNeg) * (f1 a0.toNatClampNeg).toInt64) ≤ (L 8) then ((f2 a0.toNatClampNeg), (upd (upd I 9 (f4 a0.toNatClampNeg)) 10 (f5 a0.toNatClampNeg)), (vp_updL L 8 ((L 8) - ((f3 a0.toNatClampNeg) * (f1 a0.toNatClampNeg).toInt64)))) else (if (f3 a0.toNatClampNeg) ≤ (0 : Int64) then ((f2 a0.toNatClampNeg), (upd (upd I 9 (f4 a0.toNatClampNeg)) 10 (f5 a0.toNatClampNeg)), (vp_updL L 8 ((L 8) - ((f3 a0.toNatClampNeg) * (f1 a0.toNatClampNeg).toInt64)))) else ((a0 + (1 : Int32)), (upd (upd I 9 (f4 a0.toNatClampNeg)) 10 (f5 a0.toNatClampNeg)), (vp_updL L 8 ((L 8) - (L 8) / (f3 a0.toNatClampNeg) * (f3 a0.toNatClampNeg))))))))) else ((a0 + (1 : Int32)), I, L))
set_option maxRecDepth 20000 in
theorem iX1_passBracket_1 : ∀ w ∈ wsX10, w ∈ wsX1_passBracket := by decide +kernel
set_option maxHeartbeats 4000000 in
set_option maxRecDepth 100000 in
theorem kX1_passBracket (l : Launch) (D : va_G) (cI cJ cZ cD : ClassId) (tA : Nat) (h : Nat) (R : Nat → Nat) (I : Nat → Int32) (L : Nat → Int64) (f0 : Nat → Int32) (f1 : Nat → Int32) (f2 : Nat → Int32) (f3 : Nat → Int64) (f4 : Nat → Int32) (f5 : Nat → Int32) (a0 : Int32) (hi : vp_in a0 80) : jx_M l yX1_passBracket wsX1_passBracket ({ frames := 0, cells := 0, slots := 0, locals := 0 }) D (jT cI cJ cZ cD) tA [.ref h, .int a0] [(h, .inr (1, (oX1 R I L))), ((R 0), .inl (cI, 80, .inl f0)), ((R 1), .inl (cI, 80, .inl f1)), ((R 2), .inl (cI, 80, .inl f2)), ((R 3), .inl (cJ, 80, .inr (.inl f3))), ((R 4), .inl (cI, 80, .inl f4)), ((R 5), .inl (cI, 80, .inl f5))] (jx_Qi D (jT cI cJ cZ cD) (fun r (_ : Unit) => r = (sX1_passBracket I L f0 f1 f2 f3 f4 f5 a0).1) (fun _ => [(h, .inr (1, (oX1 R (sX1_passBracket I L f0 f1 f2 f3 f4 f5 a0).2.1 (sX1_passBracket I L f0 f1 f2 f3 f4 f5 a0).2.2))), ((R 0), .inl (cI, 80, .inl f0)), ((R 1), .inl (cI, 80, .inl f1)), ((R 2), .inl (cI, 80, .inl f2)), ((R 3), .inl (cJ, 80, .inr (.inl f3))), ((R 4), .inl (cI, 80, .inl f4)), ((R 5), .inl (cI, 80, .inl f5))])) := by
  refine jx_of (cc := cX1_passBracket) (maxL := 6) (ret := (some .int)) (by decide +kernel) rfl (Nat.le_of_ble_eq_true rfl) ?_
  intro p e s m below meth c A ls hx hb hr hlocks hml hown hts hK hP hD hA hS hX hl
  have hl : lv_has ls 6 [(0, .ref h), (1, .int a0)] := hl
  have hown : s.vm.findClass RX1 = some m.cls := hown
  have hk13 := hts (.fieldLink RX1 13 "LoomDesk$Pattern" "kinds" "[I") (by decide +kernel)
  have hk17 := hts (.fieldLink RX1 17 "LoomDesk$Pattern" "values" "[I") (by decide +kernel)
  have hk20 := hts (.fieldLink RX1 20 "LoomDesk$Pattern" "ends" "[I") (by decide +kernel)
  have hk23 := hts (.fieldLink RX1 23 "LoomDesk$Pattern" "insides" "[J") (by decide +kernel)
  have hk27 := hts (.fieldLink RX1 27 "LoomDesk$Pattern" "carriers" "[I") (by decide +kernel)
  have hk30 := hts (.fieldLink RX1 30 "LoomDesk$Pattern" "densities" "[I") (by decide +kernel)
  have hk41 := hts (.fieldLink RX1 41 "LoomDesk$Pattern" "ahead" "J") (by decide +kernel)
  have hk44 := hts (.fieldLink RX1 44 "LoomDesk$Pattern" "carrier" "I") (by decide +kernel)
  have hk47 := hts (.fieldLink RX1 47 "LoomDesk$Pattern" "density" "I") (by decide +kernel)
  refine lv_aload_n hx hb dX1_passBracket_0 rfl (lv_at hl 0 rfl) ?_
  refine jx_get (v := .ref (R 3)) hx hb hts iX1_passBracket_1 hown hK hP 0 rfl rfl 3 (by decide) hk23 rfl rfl dX1_passBracket_1 ?_
  refine lv_iload_n hx hb dX1_passBracket_4 rfl (lv_at hl 1 rfl) ?_
  refine va_lald hx hb hK hP 4 1 rfl rfl hi dX1_passBracket_5 ?_
  refine lv_topl (fun v_1 ev_1 => ?_)
  refine lv_lstore_n (lv' := [(2, .long v_1), (0, .ref h), (1, .int a0)]) hx hb dX1_passBracket_6 rfl hl (by decide) rfl (fun ls hl => ?_)
  refine lv_aload_n hx hb dX1_passBracket_7 rfl (lv_at hl 1 rfl) ?_
  refine jx_get (v := .long (L 8)) hx hb hts iX1_passBracket_1 hown hK hP 0 rfl rfl 8 (by decide) hk41 rfl rfl dX1_passBracket_8 ?_
  refine lv_lload_n hx hb dX1_passBracket_11 rfl (lv_at hl 0 rfl) ?_
  refine jx_l_ge (tgt := 20) hx hb dX1_passBracket_12 dX1_passBracket_13 (by decide) (fun c_2 => ?_) (fun c_2 => ?_)
  · skip
    refine lv_lload_n hx hb dX1_passBracket_20 rfl (lv_at hl 0 rfl) ?_
    refine lv_aload_n hx hb dX1_passBracket_21 rfl (lv_at hl 1 rfl) ?_
    refine jx_get (v := .ref (R 1)) hx hb hts iX1_passBracket_1 hown hK hP 0 rfl rfl 1 (by decide) hk17 rfl rfl dX1_passBracket_22 ?_
    refine lv_iload_n hx hb dX1_passBracket_25 rfl (lv_at hl 2 rfl) ?_
    refine va_iald hx hb hK hP 2 0 rfl rfl hi dX1_passBracket_26 ?_
    refine lv_i2l hx hb dX1_passBracket_27 rfl ?_
    refine lv_lmul hx hb dX1_passBracket_28 ?_
    refine lv_topl (fun v_3 ev_3 => ?_)
    refine lv_lstore (lv' := [(4, .long v_3), (2, .long v_1), (0, .ref h), (1, .int a0)]) hx hb dX1_passBracket_29 hl (by decide) rfl (fun ls hl => ?_)
    refine lv_aload_n hx hb dX1_passBracket_31 rfl (lv_at hl 2 rfl) ?_
    refine jx_get (v := .ref (R 0)) hx hb hts iX1_passBracket_1 hown hK hP 0 rfl rfl 0 (by decide) hk13 rfl rfl dX1_passBracket_32 ?_
    refine lv_iload_n hx hb dX1_passBracket_35 rfl (lv_at hl 3 rfl) ?_
    refine va_iald hx hb hK hP 1 0 rfl rfl hi dX1_passBracket_36 ?_
    refine lv_iconst (v := 4) hx hb dX1_passBracket_37 (by decide) ?_
    refine lv_icmp_ne (tgt := 68) hx hb dX1_passBracket_38 (by decide) (fun c_4 => ?_) (fun c_4 => ?_)
    · skip
      refine lv_aload_n hx hb dX1_passBracket_68 rfl (lv_at hl 2 rfl) ?_
      refine jx_get (v := .ref (R 4)) hx hb hts iX1_passBracket_1 hown hK hP 0 rfl rfl 4 (by decide) hk27 rfl rfl dX1_passBracket_69 ?_
      refine lv_iload_n hx hb dX1_passBracket_72 rfl (lv_at hl 3 rfl) ?_
      refine va_iald hx hb hK hP 5 0 rfl rfl hi dX1_passBracket_73 ?_
      refine lv_iconst (v := -1) hx hb dX1_passBracket_74 (by decide) ?_
      refine lv_icmp_eq (tgt := 88) hx hb dX1_passBracket_75 (by decide) (fun c_5 => ?_) (fun c_5 => ?_)
      · skip
        refine lv_aload_n hx hb dX1_passBracket_88 rfl (lv_at hl 2 rfl) ?_
        refine jx_get (v := .ref (R 5)) hx hb hts iX1_passBracket_1 hown hK hP 0 rfl rfl 5 (by decide) hk30 rfl rfl dX1_passBracket_89 ?_
        refine lv_iload_n hx hb dX1_passBracket_92 rfl (lv_at hl 3 rfl) ?_
        refine va_iald hx hb hK hP 6 0 rfl rfl hi dX1_passBracket_93 ?_
        refine lv_iconst (v := -1) hx hb dX1_passBracket_94 (by decide) ?_
        refine lv_icmp_eq (tgt := 108) hx hb dX1_passBracket_95 (by decide) (fun c_6 => ?_) (fun c_6 => ?_)
        · skip
          refine lv_aload_n hx hb dX1_passBracket_108 rfl (lv_at hl 2 rfl) ?_
          refine jx_get (v := .long (L 8)) hx hb hts iX1_passBracket_1 hown hK hP 0 rfl rfl 8 (by decide) hk41 rfl rfl dX1_passBracket_109 ?_
          refine lv_lload hx hb dX1_passBracket_112 (lv_at hl 0 rfl) ?_
          refine jx_l_ge (tgt := 138) hx hb dX1_passBracket_114 dX1_passBracket_115 (by decide) (fun c_7 => ?_) (fun c_7 => ?_)
          · skip
            refine lv_aload_n hx hb dX1_passBracket_138 rfl (lv_at hl 2 rfl) ?_
            refine lv_dup hx hb dX1_passBracket_139 rfl ?_
            refine jx_get (v := .long (L 8)) hx hb hts iX1_passBracket_1 hown hK hP 0 rfl rfl 8 (by decide) hk41 rfl rfl dX1_passBracket_140 ?_
            refine lv_lload hx hb dX1_passBracket_143 (lv_at hl 0 rfl) ?_
            refine lv_lsub hx hb dX1_passBracket_145 ?_
            refine lv_topl (fun v_8 ev_8 => ?_)
            refine jx_put (w2 := [(h, .inr (1, (oX1 R I (vp_updL L 8 v_8)))), ((R 0), .inl (cI, 80, .inl f0)), ((R 1), .inl (cI, 80, .inl f1)), ((R 2), .inl (cI, 80, .inl f2)), ((R 3), .inl (cJ, 80, .inr (.inl f3))), ((R 4), .inl (cI, 80, .inl f4)), ((R 5), .inl (cI, 80, .inl f5))]) hx hb hts iX1_passBracket_1 tyX1 tyX1_ok nmX1 hown hK hP hD hS 0 rfl rfl 8 (by decide) hk41 rfl rfl rfl rfl (Nat.le_of_ble_eq_true rfl) dX1_passBracket_146 rfl (fun H locs hP hD hS => ?_)
            refine lv_aload_n hx hb dX1_passBracket_149 rfl (lv_at hl 2 rfl) ?_
            refine jx_get (v := .ref (R 2)) hx hb hts iX1_passBracket_1 hown hK hP 0 rfl rfl 2 (by decide) hk20 rfl rfl dX1_passBracket_150 ?_
            refine lv_iload_n hx hb dX1_passBracket_153 rfl (lv_at hl 3 rfl) ?_
            refine va_iald hx hb hK hP 3 0 rfl rfl hi dX1_passBracket_154 ?_
            have hq : (sX1_passBracket I L f0 f1 f2 f3 f4 f5 a0) = ((f2 a0.toNatClampNeg), I, (vp_updL L 8 v_8)) := by clear hP hD hl; subst ev_8; subst ev_3; subst ev_1; first | (rw [sX1_passBracket, if_pos c_2, if_neg c_4, if_pos c_5, if_pos c_6, if_pos c_7]; done) | simp only [sX1_passBracket, if_pos c_2, if_neg c_4, if_pos c_5, if_pos c_6, if_pos c_7]
            exact jx_iret () hx hb hr hlocks hK hP hD hS (by rw [hq]) (by rw [hq]) dX1_passBracket_155
          · skip
            refine lv_lload_n hx hb dX1_passBracket_118 rfl (lv_at hl 1 rfl) ?_
            refine lv_lconst (v := 0) hx hb dX1_passBracket_119 (by decide) ?_
            refine jx_l_le (tgt := 138) hx hb dX1_passBracket_120 dX1_passBracket_121 (by decide) (fun c_9 => ?_) (fun c_9 => ?_)
            · skip
              refine lv_aload_n hx hb dX1_passBracket_138 rfl (lv_at hl 2 rfl) ?_
              refine lv_dup hx hb dX1_passBracket_139 rfl ?_
              refine jx_get (v := .long (L 8)) hx hb hts iX1_passBracket_1 hown hK hP 0 rfl rfl 8 (by decide) hk41 rfl rfl dX1_passBracket_140 ?_
              refine lv_lload hx hb dX1_passBracket_143 (lv_at hl 0 rfl) ?_
              refine lv_lsub hx hb dX1_passBracket_145 ?_
              refine lv_topl (fun v_10 ev_10 => ?_)
              refine jx_put (w2 := [(h, .inr (1, (oX1 R I (vp_updL L 8 v_10)))), ((R 0), .inl (cI, 80, .inl f0)), ((R 1), .inl (cI, 80, .inl f1)), ((R 2), .inl (cI, 80, .inl f2)), ((R 3), .inl (cJ, 80, .inr (.inl f3))), ((R 4), .inl (cI, 80, .inl f4)), ((R 5), .inl (cI, 80, .inl f5))]) hx hb hts iX1_passBracket_1 tyX1 tyX1_ok nmX1 hown hK hP hD hS 0 rfl rfl 8 (by decide) hk41 rfl rfl rfl rfl (Nat.le_of_ble_eq_true rfl) dX1_passBracket_146 rfl (fun H locs hP hD hS => ?_)
              refine lv_aload_n hx hb dX1_passBracket_149 rfl (lv_at hl 2 rfl) ?_
              refine jx_get (v := .ref (R 2)) hx hb hts iX1_passBracket_1 hown hK hP 0 rfl rfl 2 (by decide) hk20 rfl rfl dX1_passBracket_150 ?_
              refine lv_iload_n hx hb dX1_passBracket_153 rfl (lv_at hl 3 rfl) ?_
              refine va_iald hx hb hK hP 3 0 rfl rfl hi dX1_passBracket_154 ?_
              have hq : (sX1_passBracket I L f0 f1 f2 f3 f4 f5 a0) = ((f2 a0.toNatClampNeg), I, (vp_updL L 8 v_10)) := by clear hP hD hl; subst ev_10; subst ev_3; subst ev_1; first | (rw [sX1_passBracket, if_pos c_2, if_neg c_4, if_pos c_5, if_pos c_6, if_neg c_7, if_pos c_9]; done) | simp only [sX1_passBracket, if_pos c_2, if_neg c_4, if_pos c_5, if_pos c_6, if_neg c_7, if_pos c_9]
              exact jx_iret () hx hb hr hlocks hK hP hD hS (by rw [hq]) (by rw [hq]) dX1_passBracket_155
            · skip
              refine lv_aload_n hx hb dX1_passBracket_124 rfl (lv_at hl 2 rfl) ?_
              refine lv_dup hx hb dX1_passBracket_125 rfl ?_
              refine jx_get (v := .long (L 8)) hx hb hts iX1_passBracket_1 hown hK hP 0 rfl rfl 8 (by decide) hk41 rfl rfl dX1_passBracket_126 ?_
              refine lv_lload_n hx hb dX1_passBracket_129 rfl (lv_at hl 1 rfl) ?_
              refine lv_lrem hx hb dX1_passBracket_130 (fun z => c_9 (by rw [z]; decide)) ?_
              refine lv_topl (fun v_11 ev_11 => ?_)
              refine jx_put (w2 := [(h, .inr (1, (oX1 R I (vp_updL L 8 v_11)))), ((R 0), .inl (cI, 80, .inl f0)), ((R 1), .inl (cI, 80, .inl f1)), ((R 2), .inl (cI, 80, .inl f2)), ((R 3), .inl (cJ, 80, .inr (.inl f3))), ((R 4), .inl (cI, 80, .inl f4)), ((R 5), .inl (cI, 80, .inl f5))]) hx hb hts iX1_passBracket_1 tyX1 tyX1_ok nmX1 hown hK hP hD hS 0 rfl rfl 8 (by decide) hk41 rfl rfl rfl rfl (Nat.le_of_ble_eq_true rfl) dX1_passBracket_131 rfl (fun H locs hP hD hS => ?_)
              refine lv_iload_n hx hb dX1_passBracket_134 rfl (lv_at hl 3 rfl) ?_
              refine lv_iconst (v := 1) hx hb dX1_passBracket_135 (by decide) ?_
              refine lv_iadd hx hb dX1_passBracket_136 ?_
              have hq : (sX1_passBracket I L f0 f1 f2 f3 f4 f5 a0) = ((a0 + (1 : Int32)), I, (vp_updL L 8 v_11)) := by clear hP hD hl; subst ev_11; subst ev_3; subst ev_1; first | (rw [sX1_passBracket, if_pos c_2, if_neg c_4, if_pos c_5, if_pos c_6, if_neg c_7, if_neg c_9]; done) | simp only [sX1_passBracket, if_pos c_2, if_neg c_4, if_pos c_5, if_pos c_6, if_neg c_7, if_neg c_9]
              exact jx_iret () hx hb hr hlocks hK hP hD hS (by rw [hq]) (by rw [hq]) dX1_passBracket_137
        · skip
          refine lv_aload_n hx hb dX1_passBracket_98 rfl (lv_at hl 2 rfl) ?_
          refine lv_aload_n hx hb dX1_passBracket_99 rfl (lv_at hl 2 rfl) ?_
          refine jx_get (v := .ref (R 5)) hx hb hts iX1_passBracket_1 hown hK hP 0 rfl rfl 5 (by decide) hk30 rfl rfl dX1_passBracket_100 ?_
          refine lv_iload_n hx hb dX1_passBracket_103 rfl (lv_at hl 3 rfl) ?_
          refine va_iald hx hb hK hP 6 0 rfl rfl hi dX1_passBracket_104 ?_
          refine lv_topi (fun v_12 ev_12 => ?_)
          refine jx_put (w2 := [(h, .inr (1, (oX1 R (upd I 10 v_12) L))), ((R 0), .inl (cI, 80, .inl f0)), ((R 1), .inl (cI, 80, .inl f1)), ((R 2), .inl (cI, 80, .inl f2)), ((R 3), .inl (cJ, 80, .inr (.inl f3))), ((R 4), .inl (cI, 80, .inl f4)), ((R 5), .inl (cI, 80, .inl f5))]) hx hb hts iX1_passBracket_1 tyX1 tyX1_ok nmX1 hown hK hP hD hS 0 rfl rfl 10 (by decide) hk47 rfl rfl rfl rfl (Nat.le_of_ble_eq_true rfl) dX1_passBracket_105 rfl (fun H locs hP hD hS => ?_)
          refine lv_aload_n hx hb dX1_passBracket_108 rfl (lv_at hl 2 rfl) ?_
          refine jx_get (v := .long (L 8)) hx hb hts iX1_passBracket_1 hown hK hP 0 rfl rfl 8 (by decide) hk41 rfl rfl dX1_passBracket_109 ?_
          refine lv_lload hx hb dX1_passBracket_112 (lv_at hl 0 rfl) ?_
          refine jx_l_ge (tgt := 138) hx hb dX1_passBracket_114 dX1_passBracket_115 (by decide) (fun c_13 => ?_) (fun c_13 => ?_)
          · skip
            refine lv_aload_n hx hb dX1_passBracket_138 rfl (lv_at hl 2 rfl) ?_
            refine lv_dup hx hb dX1_passBracket_139 rfl ?_
            refine jx_get (v := .long (L 8)) hx hb hts iX1_passBracket_1 hown hK hP 0 rfl rfl 8 (by decide) hk41 rfl rfl dX1_passBracket_140 ?_
            refine lv_lload hx hb dX1_passBracket_143 (lv_at hl 0 rfl) ?_
            refine lv_lsub hx hb dX1_passBracket_145 ?_
            refine lv_topl (fun v_14 ev_14 => ?_)
            refine jx_put (w2 := [(h, .inr (1, (oX1 R (upd I 10 v_12) (vp_updL L 8 v_14)))), ((R 0), .inl (cI, 80, .inl f0)), ((R 1), .inl (cI, 80, .inl f1)), ((R 2), .inl (cI, 80, .inl f2)), ((R 3), .inl (cJ, 80, .inr (.inl f3))), ((R 4), .inl (cI, 80, .inl f4)), ((R 5), .inl (cI, 80, .inl f5))]) hx hb hts iX1_passBracket_1 tyX1 tyX1_ok nmX1 hown hK hP hD hS 0 rfl rfl 8 (by decide) hk41 rfl rfl rfl rfl (Nat.le_of_ble_eq_true rfl) dX1_passBracket_146 rfl (fun H locs hP hD hS => ?_)
            refine lv_aload_n hx hb dX1_passBracket_149 rfl (lv_at hl 2 rfl) ?_
            refine jx_get (v := .ref (R 2)) hx hb hts iX1_passBracket_1 hown hK hP 0 rfl rfl 2 (by decide) hk20 rfl rfl dX1_passBracket_150 ?_
            refine lv_iload_n hx hb dX1_passBracket_153 rfl (lv_at hl 3 rfl) ?_
            refine va_iald hx hb hK hP 3 0 rfl rfl hi dX1_passBracket_154 ?_
            have hq : (sX1_passBracket I L f0 f1 f2 f3 f4 f5 a0) = ((f2 a0.toNatClampNeg), (upd I 10 v_12), (vp_updL L 8 v_14)) := by clear hP hD hl; subst ev_14; subst ev_12; subst ev_3; subst ev_1; first | (rw [sX1_passBracket, if_pos c_2, if_neg c_4, if_pos c_5, if_neg c_6, if_pos c_13]; done) | simp only [sX1_passBracket, if_pos c_2, if_neg c_4, if_pos c_5, if_neg c_6, if_pos c_13]
            exact jx_iret () hx hb hr hlocks hK hP hD hS (by rw [hq]) (by rw [hq]) dX1_passBracket_155
          · skip
            refine lv_lload_n hx hb dX1_passBracket_118 rfl (lv_at hl 1 rfl) ?_
            refine lv_lconst (v := 0) hx hb dX1_passBracket_119 (by decide) ?_
            refine jx_l_le (tgt := 138) hx hb dX1_passBracket_120 dX1_passBracket_121 (by decide) (fun c_15 => ?_) (fun c_15 => ?_)
            · skip
              refine lv_aload_n hx hb dX1_passBracket_138 rfl (lv_at hl 2 rfl) ?_
              refine lv_dup hx hb dX1_passBracket_139 rfl ?_
              refine jx_get (v := .long (L 8)) hx hb hts iX1_passBracket_1 hown hK hP 0 rfl rfl 8 (by decide) hk41 rfl rfl dX1_passBracket_140 ?_
              refine lv_lload hx hb dX1_passBracket_143 (lv_at hl 0 rfl) ?_
              refine lv_lsub hx hb dX1_passBracket_145 ?_
              refine lv_topl (fun v_16 ev_16 => ?_)
              refine jx_put (w2 := [(h, .inr (1, (oX1 R (upd I 10 v_12) (vp_updL L 8 v_16)))), ((R 0), .inl (cI, 80, .inl f0)), ((R 1), .inl (cI, 80, .inl f1)), ((R 2), .inl (cI, 80, .inl f2)), ((R 3), .inl (cJ, 80, .inr (.inl f3))), ((R 4), .inl (cI, 80, .inl f4)), ((R 5), .inl (cI, 80, .inl f5))]) hx hb hts iX1_passBracket_1 tyX1 tyX1_ok nmX1 hown hK hP hD hS 0 rfl rfl 8 (by decide) hk41 rfl rfl rfl rfl (Nat.le_of_ble_eq_true rfl) dX1_passBracket_146 rfl (fun H locs hP hD hS => ?_)
              refine lv_aload_n hx hb dX1_passBracket_149 rfl (lv_at hl 2 rfl) ?_
              refine jx_get (v := .ref (R 2)) hx hb hts iX1_passBracket_1 hown hK hP 0 rfl rfl 2 (by decide) hk20 rfl rfl dX1_passBracket_150 ?_
              refine lv_iload_n hx hb dX1_passBracket_153 rfl (lv_at hl 3 rfl) ?_
              refine va_iald hx hb hK hP 3 0 rfl rfl hi dX1_passBracket_154 ?_
              have hq : (sX1_passBracket I L f0 f1 f2 f3 f4 f5 a0) = ((f2 a0.toNatClampNeg), (upd I 10 v_12), (vp_updL L 8 v_16)) := by clear hP hD hl; subst ev_16; subst ev_12; subst ev_3; subst ev_1; first | (rw [sX1_passBracket, if_pos c_2, if_neg c_4, if_pos c_5, if_neg c_6, if_neg c_13, if_pos c_15]; done) | simp only [sX1_passBracket, if_pos c_2, if_neg c_4, if_pos c_5, if_neg c_6, if_neg c_13, if_pos c_15]
              exact jx_iret () hx hb hr hlocks hK hP hD hS (by rw [hq]) (by rw [hq]) dX1_passBracket_155
            · skip
              refine lv_aload_n hx hb dX1_passBracket_124 rfl (lv_at hl 2 rfl) ?_
              refine lv_dup hx hb dX1_passBracket_125 rfl ?_
              refine jx_get (v := .long (L 8)) hx hb hts iX1_passBracket_1 hown hK hP 0 rfl rfl 8 (by decide) hk41 rfl rfl dX1_passBracket_126 ?_
              refine lv_lload_n hx hb dX1_passBracket_129 rfl (lv_at hl 1 rfl) ?_
              refine lv_lrem hx hb dX1_passBracket_130 (fun z => c_15 (by rw [z]; decide)) ?_
              refine lv_topl (fun v_17 ev_17 => ?_)
              refine jx_put (w2 := [(h, .inr (1, (oX1 R (upd I 10 v_12) (vp_updL L 8 v_17)))), ((R 0), .inl (cI, 80, .inl f0)), ((R 1), .inl (cI, 80, .inl f1)), ((R 2), .inl (cI, 80, .inl f2)), ((R 3), .inl (cJ, 80, .inr (.inl f3))), ((R 4), .inl (cI, 80, .inl f4)), ((R 5), .inl (cI, 80, .inl f5))]) hx hb hts iX1_passBracket_1 tyX1 tyX1_ok nmX1 hown hK hP hD hS 0 rfl rfl 8 (by decide) hk41 rfl rfl rfl rfl (Nat.le_of_ble_eq_true rfl) dX1_passBracket_131 rfl (fun H locs hP hD hS => ?_)
              refine lv_iload_n hx hb dX1_passBracket_134 rfl (lv_at hl 3 rfl) ?_
              refine lv_iconst (v := 1) hx hb dX1_passBracket_135 (by decide) ?_
              refine lv_iadd hx hb dX1_passBracket_136 ?_
              have hq : (sX1_passBracket I L f0 f1 f2 f3 f4 f5 a0) = ((a0 + (1 : Int32)), (upd I 10 v_12), (vp_updL L 8 v_17)) := by clear hP hD hl; subst ev_17; subst ev_12; subst ev_3; subst ev_1; first | (rw [sX1_passBracket, if_pos c_2, if_neg c_4, if_pos c_5, if_neg c_6, if_neg c_13, if_neg c_15]; done) | simp only [sX1_passBracket, if_pos c_2, if_neg c_4, if_pos c_5, if_neg c_6, if_neg c_13, if_neg c_15]
              exact jx_iret () hx hb hr hlocks hK hP hD hS (by rw [hq]) (by rw [hq]) dX1_passBracket_137
      · skip
        refine lv_aload_n hx hb dX1_passBracket_78 rfl (lv_at hl 2 rfl) ?_
        refine lv_aload_n hx hb dX1_passBracket_79 rfl (lv_at hl 2 rfl) ?_
        refine jx_get (v := .ref (R 4)) hx hb hts iX1_passBracket_1 hown hK hP 0 rfl rfl 4 (by decide) hk27 rfl rfl dX1_passBracket_80 ?_
        refine lv_iload_n hx hb dX1_passBracket_83 rfl (lv_at hl 3 rfl) ?_
        refine va_iald hx hb hK hP 5 0 rfl rfl hi dX1_passBracket_84 ?_
        refine lv_topi (fun v_18 ev_18 => ?_)
        refine jx_put (w2 := [(h, .inr (1, (oX1 R (upd I 9 v_18) L))), ((R 0), .inl (cI, 80, .inl f0)), ((R 1), .inl (cI, 80, .inl f1)), ((R 2), .inl (cI, 80, .inl f2)), ((R 3), .inl (cJ, 80, .inr (.inl f3))), ((R 4), .inl (cI, 80, .inl f4)), ((R 5), .inl (cI, 80, .inl f5))]) hx hb hts iX1_passBracket_1 tyX1 tyX1_ok nmX1 hown hK hP hD hS 0 rfl rfl 9 (by decide) hk44 rfl rfl rfl rfl (Nat.le_of_ble_eq_true rfl) dX1_passBracket_85 rfl (fun H locs hP hD hS => ?_)
        refine lv_aload_n hx hb dX1_passBracket_88 rfl (lv_at hl 2 rfl) ?_
        refine jx_get (v := .ref (R 5)) hx hb hts iX1_passBracket_1 hown hK hP 0 rfl rfl 5 (by decide) hk30 rfl rfl dX1_passBracket_89 ?_
        refine lv_iload_n hx hb dX1_passBracket_92 rfl (lv_at hl 3 rfl) ?_
        refine va_iald hx hb hK hP 6 0 rfl rfl hi dX1_passBracket_93 ?_
        refine lv_iconst (v := -1) hx hb dX1_passBracket_94 (by decide) ?_
        refine lv_icmp_eq (tgt := 108) hx hb dX1_passBracket_95 (by decide) (fun c_19 => ?_) (fun c_19 => ?_)
        · skip
          refine lv_aload_n hx hb dX1_passBracket_108 rfl (lv_at hl 2 rfl) ?_
          refine jx_get (v := .long (L 8)) hx hb hts iX1_passBracket_1 hown hK hP 0 rfl rfl 8 (by decide) hk41 rfl rfl dX1_passBracket_109 ?_
          refine lv_lload hx hb dX1_passBracket_112 (lv_at hl 0 rfl) ?_
          refine jx_l_ge (tgt := 138) hx hb dX1_passBracket_114 dX1_passBracket_115 (by decide) (fun c_20 => ?_) (fun c_20 => ?_)
          · skip
            refine lv_aload_n hx hb dX1_passBracket_138 rfl (lv_at hl 2 rfl) ?_
            refine lv_dup hx hb dX1_passBracket_139 rfl ?_
            refine jx_get (v := .long (L 8)) hx hb hts iX1_passBracket_1 hown hK hP 0 rfl rfl 8 (by decide) hk41 rfl rfl dX1_passBracket_140 ?_
            refine lv_lload hx hb dX1_passBracket_143 (lv_at hl 0 rfl) ?_
            refine lv_lsub hx hb dX1_passBracket_145 ?_
            refine lv_topl (fun v_21 ev_21 => ?_)
            refine jx_put (w2 := [(h, .inr (1, (oX1 R (upd I 9 v_18) (vp_updL L 8 v_21)))), ((R 0), .inl (cI, 80, .inl f0)), ((R 1), .inl (cI, 80, .inl f1)), ((R 2), .inl (cI, 80, .inl f2)), ((R 3), .inl (cJ, 80, .inr (.inl f3))), ((R 4), .inl (cI, 80, .inl f4)), ((R 5), .inl (cI, 80, .inl f5))]) hx hb hts iX1_passBracket_1 tyX1 tyX1_ok nmX1 hown hK hP hD hS 0 rfl rfl 8 (by decide) hk41 rfl rfl rfl rfl (Nat.le_of_ble_eq_true rfl) dX1_passBracket_146 rfl (fun H locs hP hD hS => ?_)
            refine lv_aload_n hx hb dX1_passBracket_149 rfl (lv_at hl 2 rfl) ?_
            refine jx_get (v := .ref (R 2)) hx hb hts iX1_passBracket_1 hown hK hP 0 rfl rfl 2 (by decide) hk20 rfl rfl dX1_passBracket_150 ?_
            refine lv_iload_n hx hb dX1_passBracket_153 rfl (lv_at hl 3 rfl) ?_
            refine va_iald hx hb hK hP 3 0 rfl rfl hi dX1_passBracket_154 ?_
            have hq : (sX1_passBracket I L f0 f1 f2 f3 f4 f5 a0) = ((f2 a0.toNatClampNeg), (upd I 9 v_18), (vp_updL L 8 v_21)) := by clear hP hD hl; subst ev_21; subst ev_18; subst ev_3; subst ev_1; first | (rw [sX1_passBracket, if_pos c_2, if_neg c_4, if_neg c_5, if_pos c_19, if_pos c_20]; done) | simp only [sX1_passBracket, if_pos c_2, if_neg c_4, if_neg c_5, if_pos c_19, if_pos c_20]
            exact jx_iret () hx hb hr hlocks hK hP hD hS (by rw [hq]) (by rw [hq]) dX1_passBracket_155
          · skip
            refine lv_lload_n hx hb dX1_passBracket_118 rfl (lv_at hl 1 rfl) ?_
            refine lv_lconst (v := 0) hx hb dX1_passBracket_119 (by decide) ?_
            refine jx_l_le (tgt := 138) hx hb dX1_passBracket_120 dX1_passBracket_121 (by decide) (fun c_22 => ?_) (fun c_22 => ?_)
            · skip
              refine lv_aload_n hx hb dX1_passBracket_138 rfl (lv_at hl 2 rfl) ?_
              refine lv_dup hx hb dX1_passBracket_139 rfl ?_
              refine jx_get (v := .long (L 8)) hx hb hts iX1_passBracket_1 hown hK hP 0 rfl rfl 8 (by decide) hk41 rfl rfl dX1_passBracket_140 ?_
              refine lv_lload hx hb dX1_passBracket_143 (lv_at hl 0 rfl) ?_
              refine lv_lsub hx hb dX1_passBracket_145 ?_
              refine lv_topl (fun v_23 ev_23 => ?_)
              refine jx_put (w2 := [(h, .inr (1, (oX1 R (upd I 9 v_18) (vp_updL L 8 v_23)))), ((R 0), .inl (cI, 80, .inl f0)), ((R 1), .inl (cI, 80, .inl f1)), ((R 2), .inl (cI, 80, .inl f2)), ((R 3), .inl (cJ, 80, .inr (.inl f3))), ((R 4), .inl (cI, 80, .inl f4)), ((R 5), .inl (cI, 80, .inl f5))]) hx hb hts iX1_passBracket_1 tyX1 tyX1_ok nmX1 hown hK hP hD hS 0 rfl rfl 8 (by decide) hk41 rfl rfl rfl rfl (Nat.le_of_ble_eq_true rfl) dX1_passBracket_146 rfl (fun H locs hP hD hS => ?_)
              refine lv_aload_n hx hb dX1_passBracket_149 rfl (lv_at hl 2 rfl) ?_
              refine jx_get (v := .ref (R 2)) hx hb hts iX1_passBracket_1 hown hK hP 0 rfl rfl 2 (by decide) hk20 rfl rfl dX1_passBracket_150 ?_
              refine lv_iload_n hx hb dX1_passBracket_153 rfl (lv_at hl 3 rfl) ?_
              refine va_iald hx hb hK hP 3 0 rfl rfl hi dX1_passBracket_154 ?_
              have hq : (sX1_passBracket I L f0 f1 f2 f3 f4 f5 a0) = ((f2 a0.toNatClampNeg), (upd I 9 v_18), (vp_updL L 8 v_23)) := by clear hP hD hl; subst ev_23; subst ev_18; subst ev_3; subst ev_1; first | (rw [sX1_passBracket, if_pos c_2, if_neg c_4, if_neg c_5, if_pos c_19, if_neg c_20, if_pos c_22]; done) | simp only [sX1_passBracket, if_pos c_2, if_neg c_4, if_neg c_5, if_pos c_19, if_neg c_20, if_pos c_22]
              exact jx_iret () hx hb hr hlocks hK hP hD hS (by rw [hq]) (by rw [hq]) dX1_passBracket_155
            · skip
              refine lv_aload_n hx hb dX1_passBracket_124 rfl (lv_at hl 2 rfl) ?_
              refine lv_dup hx hb dX1_passBracket_125 rfl ?_
              refine jx_get (v := .long (L 8)) hx hb hts iX1_passBracket_1 hown hK hP 0 rfl rfl 8 (by decide) hk41 rfl rfl dX1_passBracket_126 ?_
              refine lv_lload_n hx hb dX1_passBracket_129 rfl (lv_at hl 1 rfl) ?_
              refine lv_lrem hx hb dX1_passBracket_130 (fun z => c_22 (by rw [z]; decide)) ?_
              refine lv_topl (fun v_24 ev_24 => ?_)
              refine jx_put (w2 := [(h, .inr (1, (oX1 R (upd I 9 v_18) (vp_updL L 8 v_24)))), ((R 0), .inl (cI, 80, .inl f0)), ((R 1), .inl (cI, 80, .inl f1)), ((R 2), .inl (cI, 80, .inl f2)), ((R 3), .inl (cJ, 80, .inr (.inl f3))), ((R 4), .inl (cI, 80, .inl f4)), ((R 5), .inl (cI, 80, .inl f5))]) hx hb hts iX1_passBracket_1 tyX1 tyX1_ok nmX1 hown hK hP hD hS 0 rfl rfl 8 (by decide) hk41 rfl rfl rfl rfl (Nat.le_of_ble_eq_true rfl) dX1_passBracket_131 rfl (fun H locs hP hD hS => ?_)
              refine lv_iload_n hx hb dX1_passBracket_134 rfl (lv_at hl 3 rfl) ?_
              refine lv_iconst (v := 1) hx hb dX1_passBracket_135 (by decide) ?_
              refine lv_iadd hx hb dX1_passBracket_136 ?_
              have hq : (sX1_passBracket I L f0 f1 f2 f3 f4 f5 a0) = ((a0 + (1 : Int32)), (upd I 9 v_18), (vp_updL L 8 v_24)) := by clear hP hD hl; subst ev_24; subst ev_18; subst ev_3; subst ev_1; first | (rw [sX1_passBracket, if_pos c_2, if_neg c_4, if_neg c_5, if_pos c_19, if_neg c_20, if_neg c_22]; done) | simp only [sX1_passBracket, if_pos c_2, if_neg c_4, if_neg c_5, if_pos c_19, if_neg c_20, if_neg c_22]
              exact jx_iret () hx hb hr hlocks hK hP hD hS (by rw [hq]) (by rw [hq]) dX1_passBracket_137
        · skip
          refine lv_aload_n hx hb dX1_passBracket_98 rfl (lv_at hl 2 rfl) ?_
          refine lv_aload_n hx hb dX1_passBracket_99 rfl (lv_at hl 2 rfl) ?_
          refine jx_get (v := .ref (R 5)) hx hb hts iX1_passBracket_1 hown hK hP 0 rfl rfl 5 (by decide) hk30 rfl rfl dX1_passBracket_100 ?_
          refine lv_iload_n hx hb dX1_passBracket_103 rfl (lv_at hl 3 rfl) ?_
          refine va_iald hx hb hK hP 6 0 rfl rfl hi dX1_passBracket_104 ?_
          refine lv_topi (fun v_25 ev_25 => ?_)
          refine jx_put (w2 := [(h, .inr (1, (oX1 R (upd (upd I 9 v_18) 10 v_25) L))), ((R 0), .inl (cI, 80, .inl f0)), ((R 1), .inl (cI, 80, .inl f1)), ((R 2), .inl (cI, 80, .inl f2)), ((R 3), .inl (cJ, 80, .inr (.inl f3))), ((R 4), .inl (cI, 80, .inl f4)), ((R 5), .inl (cI, 80, .inl f5))]) hx hb hts iX1_passBracket_1 tyX1 tyX1_ok nmX1 hown hK hP hD hS 0 rfl rfl 10 (by decide) hk47 rfl rfl rfl rfl (Nat.le_of_ble_eq_true rfl) dX1_passBracket_105 rfl (fun H locs hP hD hS => ?_)
          refine lv_aload_n hx hb dX1_passBracket_108 rfl (lv_at hl 2 rfl) ?_
          refine jx_get (v := .long (L 8)) hx hb hts iX1_passBracket_1 hown hK hP 0 rfl rfl 8 (by decide) hk41 rfl rfl dX1_passBracket_109 ?_
          refine lv_lload hx hb dX1_passBracket_112 (lv_at hl 0 rfl) ?_
          refine jx_l_ge (tgt := 138) hx hb dX1_passBracket_114 dX1_passBracket_115 (by decide) (fun c_26 => ?_) (fun c_26 => ?_)
          · skip
            refine lv_aload_n hx hb dX1_passBracket_138 rfl (lv_at hl 2 rfl) ?_
            refine lv_dup hx hb dX1_passBracket_139 rfl ?_
            refine jx_get (v := .long (L 8)) hx hb hts iX1_passBracket_1 hown hK hP 0 rfl rfl 8 (by decide) hk41 rfl rfl dX1_passBracket_140 ?_
            refine lv_lload hx hb dX1_passBracket_143 (lv_at hl 0 rfl) ?_
            refine lv_lsub hx hb dX1_passBracket_145 ?_
            refine lv_topl (fun v_27 ev_27 => ?_)
            refine jx_put (w2 := [(h, .inr (1, (oX1 R (upd (upd I 9 v_18) 10 v_25) (vp_updL L 8 v_27)))), ((R 0), .inl (cI, 80, .inl f0)), ((R 1), .inl (cI, 80, .inl f1)), ((R 2), .inl (cI, 80, .inl f2)), ((R 3), .inl (cJ, 80, .inr (.inl f3))), ((R 4), .inl (cI, 80, .inl f4)), ((R 5), .inl (cI, 80, .inl f5))]) hx hb hts iX1_passBracket_1 tyX1 tyX1_ok nmX1 hown hK hP hD hS 0 rfl rfl 8 (by decide) hk41 rfl rfl rfl rfl (Nat.le_of_ble_eq_true rfl) dX1_passBracket_146 rfl (fun H locs hP hD hS => ?_)
            refine lv_aload_n hx hb dX1_passBracket_149 rfl (lv_at hl 2 rfl) ?_
            refine jx_get (v := .ref (R 2)) hx hb hts iX1_passBracket_1 hown hK hP 0 rfl rfl 2 (by decide) hk20 rfl rfl dX1_passBracket_150 ?_
            refine lv_iload_n hx hb dX1_passBracket_153 rfl (lv_at hl 3 rfl) ?_
            refine va_iald hx hb hK hP 3 0 rfl rfl hi dX1_passBracket_154 ?_
            have hq : (sX1_passBracket I L f0 f1 f2 f3 f4 f5 a0) = ((f2 a0.toNatClampNeg), (upd (upd I 9 v_18) 10 v_25), (vp_updL L 8 v_27)) := by clear hP hD hl; subst ev_27; subst ev_25; subst ev_18; subst ev_3; subst ev_1; first | (rw [sX1_passBracket, if_pos c_2, if_neg c_4, if_neg c_5, if_neg c_19, if_pos c_26]; done) | simp only [sX1_passBracket, if_pos c_2, if_neg c_4, if_neg c_5, if_neg c_19, if_pos c_26]
            exact jx_iret () hx hb hr hlocks hK hP hD hS (by rw [hq]) (by rw [hq]) dX1_passBracket_155
          · skip
            refine lv_lload_n hx hb dX1_passBracket_118 rfl (lv_at hl 1 rfl) ?_
            refine lv_lconst (v := 0) hx hb dX1_passBracket_119 (by decide) ?_
            refine jx_l_le (tgt := 138) hx hb dX1_passBracket_120 dX1_passBracket_121 (by decide) (fun c_28 => ?_) (fun c_28 => ?_)
            · skip
              refine lv_aload_n hx hb dX1_passBracket_138 rfl (lv_at hl 2 rfl) ?_
              refine lv_dup hx hb dX1_passBracket_139 rfl ?_
              refine jx_get (v := .long (L 8)) hx hb hts iX1_passBracket_1 hown hK hP 0 rfl rfl 8 (by decide) hk41 rfl rfl dX1_passBracket_140 ?_
              refine lv_lload hx hb dX1_passBracket_143 (lv_at hl 0 rfl) ?_
              refine lv_lsub hx hb dX1_passBracket_145 ?_
              refine lv_topl (fun v_29 ev_29 => ?_)
              refine jx_put (w2 := [(h, .inr (1, (oX1 R (upd (upd I 9 v_18) 10 v_25) (vp_updL L 8 v_29)))), ((R 0), .inl (cI, 80, .inl f0)), ((R 1), .inl (cI, 80, .inl f1)), ((R 2), .inl (cI, 80, .inl f2)), ((R 3), .inl (cJ, 80, .inr (.inl f3))), ((R 4), .inl (cI, 80, .inl f4)), ((R 5), .inl (cI, 80, .inl f5))]) hx hb hts iX1_passBracket_1 tyX1 tyX1_ok nmX1 hown hK hP hD hS 0 rfl rfl 8 (by decide) hk41 rfl rfl rfl rfl (Nat.le_of_ble_eq_true rfl) dX1_passBracket_146 rfl (fun H locs hP hD hS => ?_)
              refine lv_aload_n hx hb dX1_passBracket_149 rfl (lv_at hl 2 rfl) ?_
              refine jx_get (v := .ref (R 2)) hx hb hts iX1_passBracket_1 hown hK hP 0 rfl rfl 2 (by decide) hk20 rfl rfl dX1_passBracket_150 ?_
              refine lv_iload_n hx hb dX1_passBracket_153 rfl (lv_at hl 3 rfl) ?_
              refine va_iald hx hb hK hP 3 0 rfl rfl hi dX1_passBracket_154 ?_
              have hq : (sX1_passBracket I L f0 f1 f2 f3 f4 f5 a0) = ((f2 a0.toNatClampNeg), (upd (upd I 9 v_18) 10 v_25), (vp_updL L 8 v_29)) := by clear hP hD hl; subst ev_29; subst ev_25; subst ev_18; subst ev_3; subst ev_1; first | (rw [sX1_passBracket, if_pos c_2, if_neg c_4, if_neg c_5, if_neg c_19, if_neg c_26, if_pos c_28]; done) | simp only [sX1_passBracket, if_pos c_2, if_neg c_4, if_neg c_5, if_neg c_19, if_neg c_26, if_pos c_28]
              exact jx_iret () hx hb hr hlocks hK hP hD hS (by rw [hq]) (by rw [hq]) dX1_passBracket_155
            · skip
              refine lv_aload_n hx hb dX1_passBracket_124 rfl (lv_at hl 2 rfl) ?_
              refine lv_dup hx hb dX1_passBracket_125 rfl ?_
              refine jx_get (v := .long (L 8)) hx hb hts iX1_passBracket_1 hown hK hP 0 rfl rfl 8 (by decide) hk41 rfl rfl dX1_passBracket_126 ?_
              refine lv_lload_n hx hb dX1_passBracket_129 rfl (lv_at hl 1 rfl) ?_
              refine lv_lrem hx hb dX1_passBracket_130 (fun z => c_28 (by rw [z]; decide)) ?_
              refine lv_topl (fun v_30 ev_30 => ?_)
              refine jx_put (w2 := [(h, .inr (1, (oX1 R (upd (upd I 9 v_18) 10 v_25) (vp_updL L 8 v_30)))), ((R 0), .inl (cI, 80, .inl f0)), ((R 1), .inl (cI, 80, .inl f1)), ((R 2), .inl (cI, 80, .inl f2)), ((R 3), .inl (cJ, 80, .inr (.inl f3))), ((R 4), .inl (cI, 80, .inl f4)), ((R 5), .inl (cI, 80, .inl f5))]) hx hb hts iX1_passBracket_1 tyX1 tyX1_ok nmX1 hown hK hP hD hS 0 rfl rfl 8 (by decide) hk41 rfl rfl rfl rfl (Nat.le_of_ble_eq_true rfl) dX1_passBracket_131 rfl (fun H locs hP hD hS => ?_)
              refine lv_iload_n hx hb dX1_passBracket_134 rfl (lv_at hl 3 rfl) ?_
              refine lv_iconst (v := 1) hx hb dX1_passBracket_135 (by decide) ?_
              refine lv_iadd hx hb dX1_passBracket_136 ?_
              have hq : (sX1_passBracket I L f0 f1 f2 f3 f4 f5 a0) = ((a0 + (1 : Int32)), (upd (upd I 9 v_18) 10 v_25), (vp_updL L 8 v_30)) := by clear hP hD hl; subst ev_30; subst ev_25; subst ev_18; subst ev_3; subst ev_1; first | (rw [sX1_passBracket, if_pos c_2, if_neg c_4, if_neg c_5, if_neg c_19, if_neg c_26, if_neg c_28]; done) | simp only [sX1_passBracket, if_pos c_2, if_neg c_4, if_neg c_5, if_neg c_19, if_neg c_26, if_neg c_28]
              exact jx_iret () hx hb hr hlocks hK hP hD hS (by rw [hq]) (by rw [hq]) dX1_passBracket_137
    · skip
      refine lv_aload_n hx hb dX1_passBracket_41 rfl (lv_at hl 2 rfl) ?_
      refine jx_get (v := .long (L 8)) hx hb hts iX1_passBracket_1 hown hK hP 0 rfl rfl 8 (by decide) hk41 rfl rfl dX1_passBracket_42 ?_
      refine lv_lload hx hb dX1_passBracket_45 (lv_at hl 0 rfl) ?_
      refine jx_l_ge (tgt := 68) hx hb dX1_passBracket_47 dX1_passBracket_48 (by decide) (fun c_31 => ?_) (fun c_31 => ?_)
      · skip
        refine lv_aload_n hx hb dX1_passBracket_68 rfl (lv_at hl 2 rfl) ?_
        refine jx_get (v := .ref (R 4)) hx hb hts iX1_passBracket_1 hown hK hP 0 rfl rfl 4 (by decide) hk27 rfl rfl dX1_passBracket_69 ?_
        refine lv_iload_n hx hb dX1_passBracket_72 rfl (lv_at hl 3 rfl) ?_
        refine va_iald hx hb hK hP 5 0 rfl rfl hi dX1_passBracket_73 ?_
        refine lv_iconst (v := -1) hx hb dX1_passBracket_74 (by decide) ?_
        refine lv_icmp_eq (tgt := 88) hx hb dX1_passBracket_75 (by decide) (fun c_32 => ?_) (fun c_32 => ?_)
        · skip
          refine lv_aload_n hx hb dX1_passBracket_88 rfl (lv_at hl 2 rfl) ?_
          refine jx_get (v := .ref (R 5)) hx hb hts iX1_passBracket_1 hown hK hP 0 rfl rfl 5 (by decide) hk30 rfl rfl dX1_passBracket_89 ?_
          refine lv_iload_n hx hb dX1_passBracket_92 rfl (lv_at hl 3 rfl) ?_
          refine va_iald hx hb hK hP 6 0 rfl rfl hi dX1_passBracket_93 ?_
          refine lv_iconst (v := -1) hx hb dX1_passBracket_94 (by decide) ?_
          refine lv_icmp_eq (tgt := 108) hx hb dX1_passBracket_95 (by decide) (fun c_33 => ?_) (fun c_33 => ?_)
          · skip
            refine lv_aload_n hx hb dX1_passBracket_108 rfl (lv_at hl 2 rfl) ?_
            refine jx_get (v := .long (L 8)) hx hb hts iX1_passBracket_1 hown hK hP 0 rfl rfl 8 (by decide) hk41 rfl rfl dX1_passBracket_109 ?_
            refine lv_lload hx hb dX1_passBracket_112 (lv_at hl 0 rfl) ?_
            refine jx_l_ge (tgt := 138) hx hb dX1_passBracket_114 dX1_passBracket_115 (by decide) (fun c_34 => ?_) (fun c_34 => ?_)
            · skip
              refine lv_aload_n hx hb dX1_passBracket_138 rfl (lv_at hl 2 rfl) ?_
              refine lv_dup hx hb dX1_passBracket_139 rfl ?_
              refine jx_get (v := .long (L 8)) hx hb hts iX1_passBracket_1 hown hK hP 0 rfl rfl 8 (by decide) hk41 rfl rfl dX1_passBracket_140 ?_
              refine lv_lload hx hb dX1_passBracket_143 (lv_at hl 0 rfl) ?_
              refine lv_lsub hx hb dX1_passBracket_145 ?_
              refine lv_topl (fun v_35 ev_35 => ?_)
              refine jx_put (w2 := [(h, .inr (1, (oX1 R I (vp_updL L 8 v_35)))), ((R 0), .inl (cI, 80, .inl f0)), ((R 1), .inl (cI, 80, .inl f1)), ((R 2), .inl (cI, 80, .inl f2)), ((R 3), .inl (cJ, 80, .inr (.inl f3))), ((R 4), .inl (cI, 80, .inl f4)), ((R 5), .inl (cI, 80, .inl f5))]) hx hb hts iX1_passBracket_1 tyX1 tyX1_ok nmX1 hown hK hP hD hS 0 rfl rfl 8 (by decide) hk41 rfl rfl rfl rfl (Nat.le_of_ble_eq_true rfl) dX1_passBracket_146 rfl (fun H locs hP hD hS => ?_)
              refine lv_aload_n hx hb dX1_passBracket_149 rfl (lv_at hl 2 rfl) ?_
              refine jx_get (v := .ref (R 2)) hx hb hts iX1_passBracket_1 hown hK hP 0 rfl rfl 2 (by decide) hk20 rfl rfl dX1_passBracket_150 ?_
              refine lv_iload_n hx hb dX1_passBracket_153 rfl (lv_at hl 3 rfl) ?_
              refine va_iald hx hb hK hP 3 0 rfl rfl hi dX1_passBracket_154 ?_
              have hq : (sX1_passBracket I L f0 f1 f2 f3 f4 f5 a0) = ((f2 a0.toNatClampNeg), I, (vp_updL L 8 v_35)) := by clear hP hD hl; subst ev_35; subst ev_3; subst ev_1; first | (rw [sX1_passBracket, if_pos c_2, if_pos c_4, if_pos c_31, if_pos c_32, if_pos c_33, if_pos c_34]; done) | simp only [sX1_passBracket, if_pos c_2, if_pos c_4, if_pos c_31, if_pos c_32, if_pos c_33, if_pos c_34]
              exact jx_iret () hx hb hr hlocks hK hP hD hS (by rw [hq]) (by rw [hq]) dX1_passBracket_155
            · skip
              refine lv_lload_n hx hb dX1_passBracket_118 rfl (lv_at hl 1 rfl) ?_
              refine lv_lconst (v := 0) hx hb dX1_passBracket_119 (by decide) ?_
              refine jx_l_le (tgt := 138) hx hb dX1_passBracket_120 dX1_passBracket_121 (by decide) (fun c_36 => ?_) (fun c_36 => ?_)
              · skip
                refine lv_aload_n hx hb dX1_passBracket_138 rfl (lv_at hl 2 rfl) ?_
                refine lv_dup hx hb dX1_passBracket_139 rfl ?_
                refine jx_get (v := .long (L 8)) hx hb hts iX1_passBracket_1 hown hK hP 0 rfl rfl 8 (by decide) hk41 rfl rfl dX1_passBracket_140 ?_
                refine lv_lload hx hb dX1_passBracket_143 (lv_at hl 0 rfl) ?_
                refine lv_lsub hx hb dX1_passBracket_145 ?_
                refine lv_topl (fun v_37 ev_37 => ?_)
                refine jx_put (w2 := [(h, .inr (1, (oX1 R I (vp_updL L 8 v_37)))), ((R 0), .inl (cI, 80, .inl f0)), ((R 1), .inl (cI, 80, .inl f1)), ((R 2), .inl (cI, 80, .inl f2)), ((R 3), .inl (cJ, 80, .inr (.inl f3))), ((R 4), .inl (cI, 80, .inl f4)), ((R 5), .inl (cI, 80, .inl f5))]) hx hb hts iX1_passBracket_1 tyX1 tyX1_ok nmX1 hown hK hP hD hS 0 rfl rfl 8 (by decide) hk41 rfl rfl rfl rfl (Nat.le_of_ble_eq_true rfl) dX1_passBracket_146 rfl (fun H locs hP hD hS => ?_)
                refine lv_aload_n hx hb dX1_passBracket_149 rfl (lv_at hl 2 rfl) ?_
                refine jx_get (v := .ref (R 2)) hx hb hts iX1_passBracket_1 hown hK hP 0 rfl rfl 2 (by decide) hk20 rfl rfl dX1_passBracket_150 ?_
                refine lv_iload_n hx hb dX1_passBracket_153 rfl (lv_at hl 3 rfl) ?_
                refine va_iald hx hb hK hP 3 0 rfl rfl hi dX1_passBracket_154 ?_
                have hq : (sX1_passBracket I L f0 f1 f2 f3 f4 f5 a0) = ((f2 a0.toNatClampNeg), I, (vp_updL L 8 v_37)) := by clear hP hD hl; subst ev_37; subst ev_3; subst ev_1; first | (rw [sX1_passBracket, if_pos c_2, if_pos c_4, if_pos c_31, if_pos c_32, if_pos c_33, if_neg c_34, if_pos c_36]; done) | simp only [sX1_passBracket, if_pos c_2, if_pos c_4, if_pos c_31, if_pos c_32, if_pos c_33, if_neg c_34, if_pos c_36]
                exact jx_iret () hx hb hr hlocks hK hP hD hS (by rw [hq]) (by rw [hq]) dX1_passBracket_155
              · skip
                refine lv_aload_n hx hb dX1_passBracket_124 rfl (lv_at hl 2 rfl) ?_
                refine lv_dup hx hb dX1_passBracket_125 rfl ?_
                refine jx_get (v := .long (L 8)) hx hb hts iX1_passBracket_1 hown hK hP 0 rfl rfl 8 (by decide) hk41 rfl rfl dX1_passBracket_126 ?_
                refine lv_lload_n hx hb dX1_passBracket_129 rfl (lv_at hl 1 rfl) ?_
                refine lv_lrem hx hb dX1_passBracket_130 (fun z => c_36 (by rw [z]; decide)) ?_
                refine lv_topl (fun v_38 ev_38 => ?_)
                refine jx_put (w2 := [(h, .inr (1, (oX1 R I (vp_updL L 8 v_38)))), ((R 0), .inl (cI, 80, .inl f0)), ((R 1), .inl (cI, 80, .inl f1)), ((R 2), .inl (cI, 80, .inl f2)), ((R 3), .inl (cJ, 80, .inr (.inl f3))), ((R 4), .inl (cI, 80, .inl f4)), ((R 5), .inl (cI, 80, .inl f5))]) hx hb hts iX1_passBracket_1 tyX1 tyX1_ok nmX1 hown hK hP hD hS 0 rfl rfl 8 (by decide) hk41 rfl rfl rfl rfl (Nat.le_of_ble_eq_true rfl) dX1_passBracket_131 rfl (fun H locs hP hD hS => ?_)
                refine lv_iload_n hx hb dX1_passBracket_134 rfl (lv_at hl 3 rfl) ?_
                refine lv_iconst (v := 1) hx hb dX1_passBracket_135 (by decide) ?_
                refine lv_iadd hx hb dX1_passBracket_136 ?_
                have hq : (sX1_passBracket I L f0 f1 f2 f3 f4 f5 a0) = ((a0 + (1 : Int32)), I, (vp_updL L 8 v_38)) := by clear hP hD hl; subst ev_38; subst ev_3; subst ev_1; first | (rw [sX1_passBracket, if_pos c_2, if_pos c_4, if_pos c_31, if_pos c_32, if_pos c_33, if_neg c_34, if_neg c_36]; done) | simp only [sX1_passBracket, if_pos c_2, if_pos c_4, if_pos c_31, if_pos c_32, if_pos c_33, if_neg c_34, if_neg c_36]
                exact jx_iret () hx hb hr hlocks hK hP hD hS (by rw [hq]) (by rw [hq]) dX1_passBracket_137
          · skip
            refine lv_aload_n hx hb dX1_passBracket_98 rfl (lv_at hl 2 rfl) ?_
            refine lv_aload_n hx hb dX1_passBracket_99 rfl (lv_at hl 2 rfl) ?_
            refine jx_get (v := .ref (R 5)) hx hb hts iX1_passBracket_1 hown hK hP 0 rfl rfl 5 (by decide) hk30 rfl rfl dX1_passBracket_100 ?_
            refine lv_iload_n hx hb dX1_passBracket_103 rfl (lv_at hl 3 rfl) ?_
            refine va_iald hx hb hK hP 6 0 rfl rfl hi dX1_passBracket_104 ?_
            refine lv_topi (fun v_39 ev_39 => ?_)
            refine jx_put (w2 := [(h, .inr (1, (oX1 R (upd I 10 v_39) L))), ((R 0), .inl (cI, 80, .inl f0)), ((R 1), .inl (cI, 80, .inl f1)), ((R 2), .inl (cI, 80, .inl f2)), ((R 3), .inl (cJ, 80, .inr (.inl f3))), ((R 4), .inl (cI, 80, .inl f4)), ((R 5), .inl (cI, 80, .inl f5))]) hx hb hts iX1_passBracket_1 tyX1 tyX1_ok nmX1 hown hK hP hD hS 0 rfl rfl 10 (by decide) hk47 rfl rfl rfl rfl (Nat.le_of_ble_eq_true rfl) dX1_passBracket_105 rfl (fun H locs hP hD hS => ?_)
            refine lv_aload_n hx hb dX1_passBracket_108 rfl (lv_at hl 2 rfl) ?_
            refine jx_get (v := .long (L 8)) hx hb hts iX1_passBracket_1 hown hK hP 0 rfl rfl 8 (by decide) hk41 rfl rfl dX1_passBracket_109 ?_
            refine lv_lload hx hb dX1_passBracket_112 (lv_at hl 0 rfl) ?_
            refine jx_l_ge (tgt := 138) hx hb dX1_passBracket_114 dX1_passBracket_115 (by decide) (fun c_40 => ?_) (fun c_40 => ?_)
            · skip
              refine lv_aload_n hx hb dX1_passBracket_138 rfl (lv_at hl 2 rfl) ?_
              refine lv_dup hx hb dX1_passBracket_139 rfl ?_
              refine jx_get (v := .long (L 8)) hx hb hts iX1_passBracket_1 hown hK hP 0 rfl rfl 8 (by decide) hk41 rfl rfl dX1_passBracket_140 ?_
              refine lv_lload hx hb dX1_passBracket_143 (lv_at hl 0 rfl) ?_
              refine lv_lsub hx hb dX1_passBracket_145 ?_
              refine lv_topl (fun v_41 ev_41 => ?_)
              refine jx_put (w2 := [(h, .inr (1, (oX1 R (upd I 10 v_39) (vp_updL L 8 v_41)))), ((R 0), .inl (cI, 80, .inl f0)), ((R 1), .inl (cI, 80, .inl f1)), ((R 2), .inl (cI, 80, .inl f2)), ((R 3), .inl (cJ, 80, .inr (.inl f3))), ((R 4), .inl (cI, 80, .inl f4)), ((R 5), .inl (cI, 80, .inl f5))]) hx hb hts iX1_passBracket_1 tyX1 tyX1_ok nmX1 hown hK hP hD hS 0 rfl rfl 8 (by decide) hk41 rfl rfl rfl rfl (Nat.le_of_ble_eq_true rfl) dX1_passBracket_146 rfl (fun H locs hP hD hS => ?_)
              refine lv_aload_n hx hb dX1_passBracket_149 rfl (lv_at hl 2 rfl) ?_
              refine jx_get (v := .ref (R 2)) hx hb hts iX1_passBracket_1 hown hK hP 0 rfl rfl 2 (by decide) hk20 rfl rfl dX1_passBracket_150 ?_
              refine lv_iload_n hx hb dX1_passBracket_153 rfl (lv_at hl 3 rfl) ?_
              refine va_iald hx hb hK hP 3 0 rfl rfl hi dX1_passBracket_154 ?_
              have hq : (sX1_passBracket I L f0 f1 f2 f3 f4 f5 a0) = ((f2 a0.toNatClampNeg), (upd I 10 v_39), (vp_updL L 8 v_41)) := by clear hP hD hl; subst ev_41; subst ev_39; subst ev_3; subst ev_1; first | (rw [sX1_passBracket, if_pos c_2, if_pos c_4, if_pos c_31, if_pos c_32, if_neg c_33, if_pos c_40]; done) | simp only [sX1_passBracket, if_pos c_2, if_pos c_4, if_pos c_31, if_pos c_32, if_neg c_33, if_pos c_40]
              exact jx_iret () hx hb hr hlocks hK hP hD hS (by rw [hq]) (by rw [hq]) dX1_passBracket_155
            · skip
              refine lv_lload_n hx hb dX1_passBracket_118 rfl (lv_at hl 1 rfl) ?_
              refine lv_lconst (v := 0) hx hb dX1_passBracket_119 (by decide) ?_
              refine jx_l_le (tgt := 138) hx hb dX1_passBracket_120 dX1_passBracket_121 (by decide) (fun c_42 => ?_) (fun c_42 => ?_)
              · skip
                refine lv_aload_n hx hb dX1_passBracket_138 rfl (lv_at hl 2 rfl) ?_
                refine lv_dup hx hb dX1_passBracket_139 rfl ?_
                refine jx_get (v := .long (L 8)) hx hb hts iX1_passBracket_1 hown hK hP 0 rfl rfl 8 (by decide) hk41 rfl rfl dX1_passBracket_140 ?_
                refine lv_lload hx hb dX1_passBracket_143 (lv_at hl 0 rfl) ?_
                refine lv_lsub hx hb dX1_passBracket_145 ?_
                refine lv_topl (fun v_43 ev_43 => ?_)
                refine jx_put (w2 := [(h, .inr (1, (oX1 R (upd I 10 v_39) (vp_updL L 8 v_43)))), ((R 0), .inl (cI, 80, .inl f0)), ((R 1), .inl (cI, 80, .inl f1)), ((R 2), .inl (cI, 80, .inl f2)), ((R 3), .inl (cJ, 80, .inr (.inl f3))), ((R 4), .inl (cI, 80, .inl f4)), ((R 5), .inl (cI, 80, .inl f5))]) hx hb hts iX1_passBracket_1 tyX1 tyX1_ok nmX1 hown hK hP hD hS 0 rfl rfl 8 (by decide) hk41 rfl rfl rfl rfl (Nat.le_of_ble_eq_true rfl) dX1_passBracket_146 rfl (fun H locs hP hD hS => ?_)
                refine lv_aload_n hx hb dX1_passBracket_149 rfl (lv_at hl 2 rfl) ?_
                refine jx_get (v := .ref (R 2)) hx hb hts iX1_passBracket_1 hown hK hP 0 rfl rfl 2 (by decide) hk20 rfl rfl dX1_passBracket_150 ?_
                refine lv_iload_n hx hb dX1_passBracket_153 rfl (lv_at hl 3 rfl) ?_
                refine va_iald hx hb hK hP 3 0 rfl rfl hi dX1_passBracket_154 ?_
                have hq : (sX1_passBracket I L f0 f1 f2 f3 f4 f5 a0) = ((f2 a0.toNatClampNeg), (upd I 10 v_39), (vp_updL L 8 v_43)) := by clear hP hD hl; subst ev_43; subst ev_39; subst ev_3; subst ev_1; first | (rw [sX1_passBracket, if_pos c_2, if_pos c_4, if_pos c_31, if_pos c_32, if_neg c_33, if_neg c_40, if_pos c_42]; done) | simp only [sX1_passBracket, if_pos c_2, if_pos c_4, if_pos c_31, if_pos c_32, if_neg c_33, if_neg c_40, if_pos c_42]
                exact jx_iret () hx hb hr hlocks hK hP hD hS (by rw [hq]) (by rw [hq]) dX1_passBracket_155
              · skip
                refine lv_aload_n hx hb dX1_passBracket_124 rfl (lv_at hl 2 rfl) ?_
                refine lv_dup hx hb dX1_passBracket_125 rfl ?_
                refine jx_get (v := .long (L 8)) hx hb hts iX1_passBracket_1 hown hK hP 0 rfl rfl 8 (by decide) hk41 rfl rfl dX1_passBracket_126 ?_
                refine lv_lload_n hx hb dX1_passBracket_129 rfl (lv_at hl 1 rfl) ?_
                refine lv_lrem hx hb dX1_passBracket_130 (fun z => c_42 (by rw [z]; decide)) ?_
                refine lv_topl (fun v_44 ev_44 => ?_)
                refine jx_put (w2 := [(h, .inr (1, (oX1 R (upd I 10 v_39) (vp_updL L 8 v_44)))), ((R 0), .inl (cI, 80, .inl f0)), ((R 1), .inl (cI, 80, .inl f1)), ((R 2), .inl (cI, 80, .inl f2)), ((R 3), .inl (cJ, 80, .inr (.inl f3))), ((R 4), .inl (cI, 80, .inl f4)), ((R 5), .inl (cI, 80, .inl f5))]) hx hb hts iX1_passBracket_1 tyX1 tyX1_ok nmX1 hown hK hP hD hS 0 rfl rfl 8 (by decide) hk41 rfl rfl rfl rfl (Nat.le_of_ble_eq_true rfl) dX1_passBracket_131 rfl (fun H locs hP hD hS => ?_)
                refine lv_iload_n hx hb dX1_passBracket_134 rfl (lv_at hl 3 rfl) ?_
                refine lv_iconst (v := 1) hx hb dX1_passBracket_135 (by decide) ?_
                refine lv_iadd hx hb dX1_passBracket_136 ?_
                have hq : (sX1_passBracket I L f0 f1 f2 f3 f4 f5 a0) = ((a0 + (1 : Int32)), (upd I 10 v_39), (vp_updL L 8 v_44)) := by clear hP hD hl; subst ev_44; subst ev_39; subst ev_3; subst ev_1; first | (rw [sX1_passBracket, if_pos c_2, if_pos c_4, if_pos c_31, if_pos c_32, if_neg c_33, if_neg c_40, if_neg c_42]; done) | simp only [sX1_passBracket, if_pos c_2, if_pos c_4, if_pos c_31, if_pos c_32, if_neg c_33, if_neg c_40, if_neg c_42]
                exact jx_iret () hx hb hr hlocks hK hP hD hS (by rw [hq]) (by rw [hq]) dX1_passBracket_137
        · skip
          refine lv_aload_n hx hb dX1_passBracket_78 rfl (lv_at hl 2 rfl) ?_
          refine lv_aload_n hx hb dX1_passBracket_79 rfl (lv_at hl 2 rfl) ?_
          refine jx_get (v := .ref (R 4)) hx hb hts iX1_passBracket_1 hown hK hP 0 rfl rfl 4 (by decide) hk27 rfl rfl dX1_passBracket_80 ?_
          refine lv_iload_n hx hb dX1_passBracket_83 rfl (lv_at hl 3 rfl) ?_
          refine va_iald hx hb hK hP 5 0 rfl rfl hi dX1_passBracket_84 ?_
          refine lv_topi (fun v_45 ev_45 => ?_)
          refine jx_put (w2 := [(h, .inr (1, (oX1 R (upd I 9 v_45) L))), ((R 0), .inl (cI, 80, .inl f0)), ((R 1), .inl (cI, 80, .inl f1)), ((R 2), .inl (cI, 80, .inl f2)), ((R 3), .inl (cJ, 80, .inr (.inl f3))), ((R 4), .inl (cI, 80, .inl f4)), ((R 5), .inl (cI, 80, .inl f5))]) hx hb hts iX1_passBracket_1 tyX1 tyX1_ok nmX1 hown hK hP hD hS 0 rfl rfl 9 (by decide) hk44 rfl rfl rfl rfl (Nat.le_of_ble_eq_true rfl) dX1_passBracket_85 rfl (fun H locs hP hD hS => ?_)
          refine lv_aload_n hx hb dX1_passBracket_88 rfl (lv_at hl 2 rfl) ?_
          refine jx_get (v := .ref (R 5)) hx hb hts iX1_passBracket_1 hown hK hP 0 rfl rfl 5 (by decide) hk30 rfl rfl dX1_passBracket_89 ?_
          refine lv_iload_n hx hb dX1_passBracket_92 rfl (lv_at hl 3 rfl) ?_
          refine va_iald hx hb hK hP 6 0 rfl rfl hi dX1_passBracket_93 ?_
          refine lv_iconst (v := -1) hx hb dX1_passBracket_94 (by decide) ?_
          refine lv_icmp_eq (tgt := 108) hx hb dX1_passBracket_95 (by decide) (fun c_46 => ?_) (fun c_46 => ?_)
          · skip
            refine lv_aload_n hx hb dX1_passBracket_108 rfl (lv_at hl 2 rfl) ?_
            refine jx_get (v := .long (L 8)) hx hb hts iX1_passBracket_1 hown hK hP 0 rfl rfl 8 (by decide) hk41 rfl rfl dX1_passBracket_109 ?_
            refine lv_lload hx hb dX1_passBracket_112 (lv_at hl 0 rfl) ?_
            refine jx_l_ge (tgt := 138) hx hb dX1_passBracket_114 dX1_passBracket_115 (by decide) (fun c_47 => ?_) (fun c_47 => ?_)
            · skip
              refine lv_aload_n hx hb dX1_passBracket_138 rfl (lv_at hl 2 rfl) ?_
              refine lv_dup hx hb dX1_passBracket_139 rfl ?_
              refine jx_get (v := .long (L 8)) hx hb hts iX1_passBracket_1 hown hK hP 0 rfl rfl 8 (by decide) hk41 rfl rfl dX1_passBracket_140 ?_
              refine lv_lload hx hb dX1_passBracket_143 (lv_at hl 0 rfl) ?_
              refine lv_lsub hx hb dX1_passBracket_145 ?_
              refine lv_topl (fun v_48 ev_48 => ?_)
              refine jx_put (w2 := [(h, .inr (1, (oX1 R (upd I 9 v_45) (vp_updL L 8 v_48)))), ((R 0), .inl (cI, 80, .inl f0)), ((R 1), .inl (cI, 80, .inl f1)), ((R 2), .inl (cI, 80, .inl f2)), ((R 3), .inl (cJ, 80, .inr (.inl f3))), ((R 4), .inl (cI, 80, .inl f4)), ((R 5), .inl (cI, 80, .inl f5))]) hx hb hts iX1_passBracket_1 tyX1 tyX1_ok nmX1 hown hK hP hD hS 0 rfl rfl 8 (by decide) hk41 rfl rfl rfl rfl (Nat.le_of_ble_eq_true rfl) dX1_passBracket_146 rfl (fun H locs hP hD hS => ?_)
              refine lv_aload_n hx hb dX1_passBracket_149 rfl (lv_at hl 2 rfl) ?_
              refine jx_get (v := .ref (R 2)) hx hb hts iX1_passBracket_1 hown hK hP 0 rfl rfl 2 (by decide) hk20 rfl rfl dX1_passBracket_150 ?_
              refine lv_iload_n hx hb dX1_passBracket_153 rfl (lv_at hl 3 rfl) ?_
              refine va_iald hx hb hK hP 3 0 rfl rfl hi dX1_passBracket_154 ?_
              have hq : (sX1_passBracket I L f0 f1 f2 f3 f4 f5 a0) = ((f2 a0.toNatClampNeg), (upd I 9 v_45), (vp_updL L 8 v_48)) := by clear hP hD hl; subst ev_48; subst ev_45; subst ev_3; subst ev_1; first | (rw [sX1_passBracket, if_pos c_2, if_pos c_4, if_pos c_31, if_neg c_32, if_pos c_46, if_pos c_47]; done) | simp only [sX1_passBracket, if_pos c_2, if_pos c_4, if_pos c_31, if_neg c_32, if_pos c_46, if_pos c_47]
              exact jx_iret () hx hb hr hlocks hK hP hD hS (by rw [hq]) (by rw [hq]) dX1_passBracket_155
            · skip
              refine lv_lload_n hx hb dX1_passBracket_118 rfl (lv_at hl 1 rfl) ?_
              refine lv_lconst (v := 0) hx hb dX1_passBracket_119 (by decide) ?_
              refine jx_l_le (tgt := 138) hx hb dX1_passBracket_120 dX1_passBracket_121 (by decide) (fun c_49 => ?_) (fun c_49 => ?_)
              · skip
                refine lv_aload_n hx hb dX1_passBracket_138 rfl (lv_at hl 2 rfl) ?_
                refine lv_dup hx hb dX1_passBracket_139 rfl ?_
                refine jx_get (v := .long (L 8)) hx hb hts iX1_passBracket_1 hown hK hP 0 rfl rfl 8 (by decide) hk41 rfl rfl dX1_passBracket_140 ?_
                refine lv_lload hx hb dX1_passBracket_143 (lv_at hl 0 rfl) ?_
                refine lv_lsub hx hb dX1_passBracket_145 ?_
                refine lv_topl (fun v_50 ev_50 => ?_)
                refine jx_put (w2 := [(h, .inr (1, (oX1 R (upd I 9 v_45) (vp_updL L 8 v_50)))), ((R 0), .inl (cI, 80, .inl f0)), ((R 1), .inl (cI, 80, .inl f1)), ((R 2), .inl (cI, 80, .inl f2)), ((R 3), .inl (cJ, 80, .inr (.inl f3))), ((R 4), .inl (cI, 80, .inl f4)), ((R 5), .inl (cI, 80, .inl f5))]) hx hb hts iX1_passBracket_1 tyX1 tyX1_ok nmX1 hown hK hP hD hS 0 rfl rfl 8 (by decide) hk41 rfl rfl rfl rfl (Nat.le_of_ble_eq_true rfl) dX1_passBracket_146 rfl (fun H locs hP hD hS => ?_)
                refine lv_aload_n hx hb dX1_passBracket_149 rfl (lv_at hl 2 rfl) ?_
                refine jx_get (v := .ref (R 2)) hx hb hts iX1_passBracket_1 hown hK hP 0 rfl rfl 2 (by decide) hk20 rfl rfl dX1_passBracket_150 ?_
                refine lv_iload_n hx hb dX1_passBracket_153 rfl (lv_at hl 3 rfl) ?_
                refine va_iald hx hb hK hP 3 0 rfl rfl hi dX1_passBracket_154 ?_
                have hq : (sX1_passBracket I L f0 f1 f2 f3 f4 f5 a0) = ((f2 a0.toNatClampNeg), (upd I 9 v_45), (vp_updL L 8 v_50)) := by clear hP hD hl; subst ev_50; subst ev_45; subst ev_3; subst ev_1; first | (rw [sX1_passBracket, if_pos c_2, if_pos c_4, if_pos c_31, if_neg c_32, if_pos c_46, if_neg c_47, if_pos c_49]; done) | simp only [sX1_passBracket, if_pos c_2, if_pos c_4, if_pos c_31, if_neg c_32, if_pos c_46, if_neg c_47, if_pos c_49]
                exact jx_iret () hx hb hr hlocks hK hP hD hS (by rw [hq]) (by rw [hq]) dX1_passBracket_155
              · skip
                refine lv_aload_n hx hb dX1_passBracket_124 rfl (lv_at hl 2 rfl) ?_
                refine lv_dup hx hb dX1_passBracket_125 rfl ?_
                refine jx_get (v := .long (L 8)) hx hb hts iX1_passBracket_1 hown hK hP 0 rfl rfl 8 (by decide) hk41 rfl rfl dX1_passBracket_126 ?_
                refine lv_lload_n hx hb dX1_passBracket_129 rfl (lv_at hl 1 rfl) ?_
                refine lv_lrem hx hb dX1_passBracket_130 (fun z => c_49 (by rw [z]; decide)) ?_
                refine lv_topl (fun v_51 ev_51 => ?_)
                refine jx_put (w2 := [(h, .inr (1, (oX1 R (upd I 9 v_45) (vp_updL L 8 v_51)))), ((R 0), .inl (cI, 80, .inl f0)), ((R 1), .inl (cI, 80, .inl f1)), ((R 2), .inl (cI, 80, .inl f2)), ((R 3), .inl (cJ, 80, .inr (.inl f3))), ((R 4), .inl (cI, 80, .inl f4)), ((R 5), .inl (cI, 80, .inl f5))]) hx hb hts iX1_passBracket_1 tyX1 tyX1_ok nmX1 hown hK hP hD hS 0 rfl rfl 8 (by decide) hk41 rfl rfl rfl rfl (Nat.le_of_ble_eq_true rfl) dX1_passBracket_131 rfl (fun H locs hP hD hS => ?_)
                refine lv_iload_n hx hb dX1_passBracket_134 rfl (lv_at hl 3 rfl) ?_
                refine lv_iconst (v := 1) hx hb dX1_passBracket_135 (by decide) ?_
                refine lv_iadd hx hb dX1_passBracket_136 ?_
                have hq : (sX1_passBracket I L f0 f1 f2 f3 f4 f5 a0) = ((a0 + (1 : Int32)), (upd I 9 v_45), (vp_updL L 8 v_51)) := by clear hP hD hl; subst ev_51; subst ev_45; subst ev_3; subst ev_1; first | (rw [sX1_passBracket, if_pos c_2, if_pos c_4, if_pos c_31, if_neg c_32, if_pos c_46, if_neg c_47, if_neg c_49]; done) | simp only [sX1_passBracket, if_pos c_2, if_pos c_4, if_pos c_31, if_neg c_32, if_pos c_46, if_neg c_47, if_neg c_49]
                exact jx_iret () hx hb hr hlocks hK hP hD hS (by rw [hq]) (by rw [hq]) dX1_passBracket_137
          · skip
            refine lv_aload_n hx hb dX1_passBracket_98 rfl (lv_at hl 2 rfl) ?_
            refine lv_aload_n hx hb dX1_passBracket_99 rfl (lv_at hl 2 rfl) ?_
            refine jx_get (v := .ref (R 5)) hx hb hts iX1_passBracket_1 hown hK hP 0 rfl rfl 5 (by decide) hk30 rfl rfl dX1_passBracket_100 ?_
            refine lv_iload_n hx hb dX1_passBracket_103 rfl (lv_at hl 3 rfl) ?_
            refine va_iald hx hb hK hP 6 0 rfl rfl hi dX1_passBracket_104 ?_
            refine lv_topi (fun v_52 ev_52 => ?_)
            refine jx_put (w2 := [(h, .inr (1, (oX1 R (upd (upd I 9 v_45) 10 v_52) L))), ((R 0), .inl (cI, 80, .inl f0)), ((R 1), .inl (cI, 80, .inl f1)), ((R 2), .inl (cI, 80, .inl f2)), ((R 3), .inl (cJ, 80, .inr (.inl f3))), ((R 4), .inl (cI, 80, .inl f4)), ((R 5), .inl (cI, 80, .inl f5))]) hx hb hts iX1_passBracket_1 tyX1 tyX1_ok nmX1 hown hK hP hD hS 0 rfl rfl 10 (by decide) hk47 rfl rfl rfl rfl (Nat.le_of_ble_eq_true rfl) dX1_passBracket_105 rfl (fun H locs hP hD hS => ?_)
            refine lv_aload_n hx hb dX1_passBracket_108 rfl (lv_at hl 2 rfl) ?_
            refine jx_get (v := .long (L 8)) hx hb hts iX1_passBracket_1 hown hK hP 0 rfl rfl 8 (by decide) hk41 rfl rfl dX1_passBracket_109 ?_
            refine lv_lload hx hb dX1_passBracket_112 (lv_at hl 0 rfl) ?_
            refine jx_l_ge (tgt := 138) hx hb dX1_passBracket_114 dX1_passBracket_115 (by decide) (fun c_53 => ?_) (fun c_53 => ?_)
            · skip
              refine lv_aload_n hx hb dX1_passBracket_138 rfl (lv_at hl 2 rfl) ?_
              refine lv_dup hx hb dX1_passBracket_139 rfl ?_
              refine jx_get (v := .long (L 8)) hx hb hts iX1_passBracket_1 hown hK hP 0 rfl rfl 8 (by decide) hk41 rfl rfl dX1_passBracket_140 ?_
              refine lv_lload hx hb dX1_passBracket_143 (lv_at hl 0 rfl) ?_
              refine lv_lsub hx hb dX1_passBracket_145 ?_
              refine lv_topl (fun v_54 ev_54 => ?_)
              refine jx_put (w2 := [(h, .inr (1, (oX1 R (upd (upd I 9 v_45) 10 v_52) (vp_updL L 8 v_54)))), ((R 0), .inl (cI, 80, .inl f0)), ((R 1), .inl (cI, 80, .inl f1)), ((R 2), .inl (cI, 80, .inl f2)), ((R 3), .inl (cJ, 80, .inr (.inl f3))), ((R 4), .inl (cI, 80, .inl f4)), ((R 5), .inl (cI, 80, .inl f5))]) hx hb hts iX1_passBracket_1 tyX1 tyX1_ok nmX1 hown hK hP hD hS 0 rfl rfl 8 (by decide) hk41 rfl rfl rfl rfl (Nat.le_of_ble_eq_true rfl) dX1_passBracket_146 rfl (fun H locs hP hD hS => ?_)
              refine lv_aload_n hx hb dX1_passBracket_149 rfl (lv_at hl 2 rfl) ?_
              refine jx_get (v := .ref (R 2)) hx hb hts iX1_passBracket_1 hown hK hP 0 rfl rfl 2 (by decide) hk20 rfl rfl dX1_passBracket_150 ?_
              refine lv_iload_n hx hb dX1_passBracket_153 rfl (lv_at hl 3 rfl) ?_
              refine va_iald hx hb hK hP 3 0 rfl rfl hi dX1_passBracket_154 ?_
              have hq : (sX1_passBracket I L f0 f1 f2 f3 f4 f5 a0) = ((f2 a0.toNatClampNeg), (upd (upd I 9 v_45) 10 v_52), (vp_updL L 8 v_54)) := by clear hP hD hl; subst ev_54; subst ev_52; subst ev_45; subst ev_3; subst ev_1; first | (rw [sX1_passBracket, if_pos c_2, if_pos c_4, if_pos c_31, if_neg c_32, if_neg c_46, if_pos c_53]; done) | simp only [sX1_passBracket, if_pos c_2, if_pos c_4, if_pos c_31, if_neg c_32, if_neg c_46, if_pos c_53]
              exact jx_iret () hx hb hr hlocks hK hP hD hS (by rw [hq]) (by rw [hq]) dX1_passBracket_155
            · skip
              refine lv_lload_n hx hb dX1_passBracket_118 rfl (lv_at hl 1 rfl) ?_
              refine lv_lconst (v := 0) hx hb dX1_passBracket_119 (by decide) ?_
              refine jx_l_le (tgt := 138) hx hb dX1_passBracket_120 dX1_passBracket_121 (by decide) (fun c_55 => ?_) (fun c_55 => ?_)
              · skip
                refine lv_aload_n hx hb dX1_passBracket_138 rfl (lv_at hl 2 rfl) ?_
                refine lv_dup hx hb dX1_passBracket_139 rfl ?_
                refine jx_get (v := .long (L 8)) hx hb hts iX1_passBracket_1 hown hK hP 0 rfl rfl 8 (by decide) hk41 rfl rfl dX1_passBracket_140 ?_
                refine lv_lload hx hb dX1_passBracket_143 (lv_at hl 0 rfl) ?_
                refine lv_lsub hx hb dX1_passBracket_145 ?_
                refine lv_topl (fun v_56 ev_56 => ?_)
                refine jx_put (w2 := [(h, .inr (1, (oX1 R (upd (upd I 9 v_45) 10 v_52) (vp_updL L 8 v_56)))), ((R 0), .inl (cI, 80, .inl f0)), ((R 1), .inl (cI, 80, .inl f1)), ((R 2), .inl (cI, 80, .inl f2)), ((R 3), .inl (cJ, 80, .inr (.inl f3))), ((R 4), .inl (cI, 80, .inl f4)), ((R 5), .inl (cI, 80, .inl f5))]) hx hb hts iX1_passBracket_1 tyX1 tyX1_ok nmX1 hown hK hP hD hS 0 rfl rfl 8 (by decide) hk41 rfl rfl rfl rfl (Nat.le_of_ble_eq_true rfl) dX1_passBracket_146 rfl (fun H locs hP hD hS => ?_)
                refine lv_aload_n hx hb dX1_passBracket_149 rfl (lv_at hl 2 rfl) ?_
                refine jx_get (v := .ref (R 2)) hx hb hts iX1_passBracket_1 hown hK hP 0 rfl rfl 2 (by decide) hk20 rfl rfl dX1_passBracket_150 ?_
                refine lv_iload_n hx hb dX1_passBracket_153 rfl (lv_at hl 3 rfl) ?_
                refine va_iald hx hb hK hP 3 0 rfl rfl hi dX1_passBracket_154 ?_
                have hq : (sX1_passBracket I L f0 f1 f2 f3 f4 f5 a0) = ((f2 a0.toNatClampNeg), (upd (upd I 9 v_45) 10 v_52), (vp_updL L 8 v_56)) := by clear hP hD hl; subst ev_56; subst ev_52; subst ev_45; subst ev_3; subst ev_1; first | (rw [sX1_passBracket, if_pos c_2, if_pos c_4, if_pos c_31, if_neg c_32, if_neg c_46, if_neg c_53, if_pos c_55]; done) | simp only [sX1_passBracket, if_pos c_2, if_pos c_4, if_pos c_31, if_neg c_32, if_neg c_46, if_neg c_53, if_pos c_55]
                exact jx_iret () hx hb hr hlocks hK hP hD hS (by rw [hq]) (by rw [hq]) dX1_passBracket_155
              · skip
                refine lv_aload_n hx hb dX1_passBracket_124 rfl (lv_at hl 2 rfl) ?_
                refine lv_dup hx hb dX1_passBracket_125 rfl ?_
                refine jx_get (v := .long (L 8)) hx hb hts iX1_passBracket_1 hown hK hP 0 rfl rfl 8 (by decide) hk41 rfl rfl dX1_passBracket_126 ?_
                refine lv_lload_n hx hb dX1_passBracket_129 rfl (lv_at hl 1 rfl) ?_
                refine lv_lrem hx hb dX1_passBracket_130 (fun z => c_55 (by rw [z]; decide)) ?_
                refine lv_topl (fun v_57 ev_57 => ?_)
                refine jx_put (w2 := [(h, .inr (1, (oX1 R (upd (upd I 9 v_45) 10 v_52) (vp_updL L 8 v_57)))), ((R 0), .inl (cI, 80, .inl f0)), ((R 1), .inl (cI, 80, .inl f1)), ((R 2), .inl (cI, 80, .inl f2)), ((R 3), .inl (cJ, 80, .inr (.inl f3))), ((R 4), .inl (cI, 80, .inl f4)), ((R 5), .inl (cI, 80, .inl f5))]) hx hb hts iX1_passBracket_1 tyX1 tyX1_ok nmX1 hown hK hP hD hS 0 rfl rfl 8 (by decide) hk41 rfl rfl rfl rfl (Nat.le_of_ble_eq_true rfl) dX1_passBracket_131 rfl (fun H locs hP hD hS => ?_)
                refine lv_iload_n hx hb dX1_passBracket_134 rfl (lv_at hl 3 rfl) ?_
                refine lv_iconst (v := 1) hx hb dX1_passBracket_135 (by decide) ?_
                refine lv_iadd hx hb dX1_passBracket_136 ?_
                have hq : (sX1_passBracket I L f0 f1 f2 f3 f4 f5 a0) = ((a0 + (1 : Int32)), (upd (upd I 9 v_45) 10 v_52), (vp_updL L 8 v_57)) := by clear hP hD hl; subst ev_57; subst ev_52; subst ev_45; subst ev_3; subst ev_1; first | (rw [sX1_passBracket, if_pos c_2, if_pos c_4, if_pos c_31, if_neg c_32, if_neg c_46, if_neg c_53, if_neg c_55]; done) | simp only [sX1_passBracket, if_pos c_2, if_pos c_4, if_pos c_31, if_neg c_32, if_neg c_46, if_neg c_53, if_neg c_55]
                exact jx_iret () hx hb hr hlocks hK hP hD hS (by rw [hq]) (by rw [hq]) dX1_passBracket_137
      · skip
        refine lv_aload_n hx hb dX1_passBracket_51 rfl (lv_at hl 2 rfl) ?_
        refine lv_lload hx hb dX1_passBracket_52 (lv_at hl 0 rfl) ?_
        refine lv_lconst (v := 1) hx hb dX1_passBracket_54 (by decide) ?_
        refine lv_lsub hx hb dX1_passBracket_55 ?_
        refine lv_aload_n hx hb dX1_passBracket_56 rfl (lv_at hl 2 rfl) ?_
        refine jx_get (v := .long (L 8)) hx hb hts iX1_passBracket_1 hown hK hP 0 rfl rfl 8 (by decide) hk41 rfl rfl dX1_passBracket_57 ?_
        refine lv_lsub hx hb dX1_passBracket_60 ?_
        refine lv_topl (fun v_58 ev_58 => ?_)
        refine jx_put (w2 := [(h, .inr (1, (oX1 R I (vp_updL L 8 v_58)))), ((R 0), .inl (cI, 80, .inl f0)), ((R 1), .inl (cI, 80, .inl f1)), ((R 2), .inl (cI, 80, .inl f2)), ((R 3), .inl (cJ, 80, .inr (.inl f3))), ((R 4), .inl (cI, 80, .inl f4)), ((R 5), .inl (cI, 80, .inl f5))]) hx hb hts iX1_passBracket_1 tyX1 tyX1_ok nmX1 hown hK hP hD hS 0 rfl rfl 8 (by decide) hk41 rfl rfl rfl rfl (Nat.le_of_ble_eq_true rfl) dX1_passBracket_61 rfl (fun H locs hP hD hS => ?_)
        refine lv_iload_n hx hb dX1_passBracket_64 rfl (lv_at hl 3 rfl) ?_
        refine lv_iconst (v := 1) hx hb dX1_passBracket_65 (by decide) ?_
        refine lv_iadd hx hb dX1_passBracket_66 ?_
        have hq : (sX1_passBracket I L f0 f1 f2 f3 f4 f5 a0) = ((a0 + (1 : Int32)), I, (vp_updL L 8 v_58)) := by clear hP hD hl; subst ev_58; subst ev_3; subst ev_1; first | (rw [sX1_passBracket, if_pos c_2, if_pos c_4, if_neg c_31]; done) | simp only [sX1_passBracket, if_pos c_2, if_pos c_4, if_neg c_31]
        exact jx_iret () hx hb hr hlocks hK hP hD hS (by rw [hq]) (by rw [hq]) dX1_passBracket_67
  · skip
    refine lv_iload_n hx hb dX1_passBracket_16 rfl (lv_at hl 2 rfl) ?_
    refine lv_iconst (v := 1) hx hb dX1_passBracket_17 (by decide) ?_
    refine lv_iadd hx hb dX1_passBracket_18 ?_
    have hq : (sX1_passBracket I L f0 f1 f2 f3 f4 f5 a0) = ((a0 + (1 : Int32)), I, L) := by clear hP hD hl; subst ev_1; first | (rw [sX1_passBracket, if_neg c_2]; done) | simp only [sX1_passBracket, if_neg c_2]
    exact jx_iret () hx hb hr hlocks hK hP hD hS (by rw [hq]) (by rw [hq]) dX1_passBracket_19

def sX1_pass (I : Nat → Int32) (L : Nat → Int64) (f0 : Nat → Int32) (f1 : Nat → Int32) (f2 : Nat → Int32) (f3 : Nat → Int64) (f4 : Nat → Int32) (f5 : Nat → Int32) (a0 : Int32) : Int32 × (Nat → Int32) × (Nat → Int64) := (if (f0 a0.toNatClampNeg) = (0 : Int32) then ((a0 + (1 : Int32)), I, (vp_updL L 8 ((L 8) - (1 : Int64)))) else (if (f0 a0.toNatClampNeg) = (1 : Int32) then ((a0 + (1 : Int32)), (upd I 9 (f1 a0.toNatClampNeg)), L) else (if (f0 a0.toNatClampNeg) = (2 : Int32) then ((a0 + (1 : Int32)), (upd I 10 (f1 a0.toNatClampNeg)), L) else (((sX1_passBracket I L f0 f1 f2 f3 f4 f5 a0).1), ((sX1_passBracket I L f0 f1 f2 f3 f4 f5 a0).2.1), ((sX1_passBracket I L f0 f1 f2 f3 f4 f5 a0).2.2)))))
set_option maxRecDepth 20000 in
theorem iX1_pass_1 : ∀ w ∈ wsX10, w ∈ wsX1_pass := by decide +kernel
set_option maxHeartbeats 4000000 in
set_option maxRecDepth 100000 in
theorem kX1_pass (l : Launch) (D : va_G) (cI cJ cZ cD : ClassId) (tA : Nat) (h : Nat) (R : Nat → Nat) (I : Nat → Int32) (L : Nat → Int64) (f0 : Nat → Int32) (f1 : Nat → Int32) (f2 : Nat → Int32) (f3 : Nat → Int64) (f4 : Nat → Int32) (f5 : Nat → Int32) (a0 : Int32) (hi : vp_in a0 80) : jx_M l yX1_pass wsX1_pass ({ frames := 1, cells := 0, slots := 0, locals := 25 }) D (jT cI cJ cZ cD) tA [.ref h, .int a0] [(h, .inr (1, (oX1 R I L))), ((R 0), .inl (cI, 80, .inl f0)), ((R 1), .inl (cI, 80, .inl f1)), ((R 2), .inl (cI, 80, .inl f2)), ((R 3), .inl (cJ, 80, .inr (.inl f3))), ((R 4), .inl (cI, 80, .inl f4)), ((R 5), .inl (cI, 80, .inl f5))] (jx_Qi D (jT cI cJ cZ cD) (fun r (_ : Unit) => r = (sX1_pass I L f0 f1 f2 f3 f4 f5 a0).1) (fun _ => [(h, .inr (1, (oX1 R (sX1_pass I L f0 f1 f2 f3 f4 f5 a0).2.1 (sX1_pass I L f0 f1 f2 f3 f4 f5 a0).2.2))), ((R 0), .inl (cI, 80, .inl f0)), ((R 1), .inl (cI, 80, .inl f1)), ((R 2), .inl (cI, 80, .inl f2)), ((R 3), .inl (cJ, 80, .inr (.inl f3))), ((R 4), .inl (cI, 80, .inl f4)), ((R 5), .inl (cI, 80, .inl f5))])) := by
  refine jx_of (cc := cX1_pass) (maxL := 2) (ret := (some .int)) (by decide +kernel) rfl (Nat.le_of_ble_eq_true rfl) ?_
  intro p e s m below meth c A ls hx hb hr hlocks hml hown hts hK hP hD hA hS hX hl
  have hl : lv_has ls 2 [(0, .ref h), (1, .int a0)] := hl
  have hown : s.vm.findClass RX1 = some m.cls := hown
  have hk13 := hts (.fieldLink RX1 13 "LoomDesk$Pattern" "kinds" "[I") (by decide +kernel)
  have hk17 := hts (.fieldLink RX1 17 "LoomDesk$Pattern" "values" "[I") (by decide +kernel)
  have hk41 := hts (.fieldLink RX1 41 "LoomDesk$Pattern" "ahead" "J") (by decide +kernel)
  have hk44 := hts (.fieldLink RX1 44 "LoomDesk$Pattern" "carrier" "I") (by decide +kernel)
  have hk47 := hts (.fieldLink RX1 47 "LoomDesk$Pattern" "density" "I") (by decide +kernel)
  refine lv_aload_n hx hb dX1_pass_0 rfl (lv_at hl 0 rfl) ?_
  refine jx_get (v := .ref (R 0)) hx hb hts iX1_pass_1 hown hK hP 0 rfl rfl 0 (by decide) hk13 rfl rfl dX1_pass_1 ?_
  refine lv_iload_n hx hb dX1_pass_4 rfl (lv_at hl 1 rfl) ?_
  refine va_iald hx hb hK hP 1 0 rfl rfl hi dX1_pass_5 ?_
  by_cases c_1 : (f0 a0.toNatClampNeg) = (0 : Int32)
  · skip
    refine lv_tableIn (off := 26) (tgt := 32) hx hb dX1_pass_6 (by rw [c_1]; decide) (by rw [c_1]; decide) (by rw [c_1]; rfl) (by decide) ?_
    refine lv_aload_n hx hb dX1_pass_32 rfl (lv_at hl 0 rfl) ?_
    refine lv_dup hx hb dX1_pass_33 rfl ?_
    refine jx_get (v := .long (L 8)) hx hb hts iX1_pass_1 hown hK hP 0 rfl rfl 8 (by decide) hk41 rfl rfl dX1_pass_34 ?_
    refine lv_lconst (v := 1) hx hb dX1_pass_37 (by decide) ?_
    refine lv_lsub hx hb dX1_pass_38 ?_
    refine lv_topl (fun v_2 ev_2 => ?_)
    refine jx_put (w2 := [(h, .inr (1, (oX1 R I (vp_updL L 8 v_2)))), ((R 0), .inl (cI, 80, .inl f0)), ((R 1), .inl (cI, 80, .inl f1)), ((R 2), .inl (cI, 80, .inl f2)), ((R 3), .inl (cJ, 80, .inr (.inl f3))), ((R 4), .inl (cI, 80, .inl f4)), ((R 5), .inl (cI, 80, .inl f5))]) hx hb hts iX1_pass_1 tyX1 tyX1_ok nmX1 hown hK hP hD hS 0 rfl rfl 8 (by decide) hk41 rfl rfl rfl rfl (Nat.le_of_ble_eq_true rfl) dX1_pass_39 rfl (fun H locs hP hD hS => ?_)
    refine lv_iload_n hx hb dX1_pass_42 rfl (lv_at hl 1 rfl) ?_
    refine lv_iconst (v := 1) hx hb dX1_pass_43 (by decide) ?_
    refine lv_iadd hx hb dX1_pass_44 ?_
    have hq : (sX1_pass I L f0 f1 f2 f3 f4 f5 a0) = ((a0 + (1 : Int32)), I, (vp_updL L 8 v_2)) := by clear hP hD hl; subst ev_2; first | (rw [sX1_pass, if_pos c_1]; done) | simp only [sX1_pass, if_pos c_1]
    exact jx_iret () hx hb hr hlocks hK hP hD hS (by rw [hq]) (by rw [hq]) dX1_pass_45
  by_cases c_3 : (f0 a0.toNatClampNeg) = (1 : Int32)
  · skip
    refine lv_tableIn (off := 40) (tgt := 46) hx hb dX1_pass_6 (by rw [c_3]; decide) (by rw [c_3]; decide) (by rw [c_3]; rfl) (by decide) ?_
    refine lv_aload_n hx hb dX1_pass_46 rfl (lv_at hl 0 rfl) ?_
    refine lv_aload_n hx hb dX1_pass_47 rfl (lv_at hl 0 rfl) ?_
    refine jx_get (v := .ref (R 1)) hx hb hts iX1_pass_1 hown hK hP 0 rfl rfl 1 (by decide) hk17 rfl rfl dX1_pass_48 ?_
    refine lv_iload_n hx hb dX1_pass_51 rfl (lv_at hl 1 rfl) ?_
    refine va_iald hx hb hK hP 2 0 rfl rfl hi dX1_pass_52 ?_
    refine lv_topi (fun v_4 ev_4 => ?_)
    refine jx_put (w2 := [(h, .inr (1, (oX1 R (upd I 9 v_4) L))), ((R 0), .inl (cI, 80, .inl f0)), ((R 1), .inl (cI, 80, .inl f1)), ((R 2), .inl (cI, 80, .inl f2)), ((R 3), .inl (cJ, 80, .inr (.inl f3))), ((R 4), .inl (cI, 80, .inl f4)), ((R 5), .inl (cI, 80, .inl f5))]) hx hb hts iX1_pass_1 tyX1 tyX1_ok nmX1 hown hK hP hD hS 0 rfl rfl 9 (by decide) hk44 rfl rfl rfl rfl (Nat.le_of_ble_eq_true rfl) dX1_pass_53 rfl (fun H locs hP hD hS => ?_)
    refine lv_iload_n hx hb dX1_pass_56 rfl (lv_at hl 1 rfl) ?_
    refine lv_iconst (v := 1) hx hb dX1_pass_57 (by decide) ?_
    refine lv_iadd hx hb dX1_pass_58 ?_
    have hq : (sX1_pass I L f0 f1 f2 f3 f4 f5 a0) = ((a0 + (1 : Int32)), (upd I 9 v_4), L) := by clear hP hD hl; subst ev_4; first | (rw [sX1_pass, if_neg c_1, if_pos c_3]; done) | simp only [sX1_pass, if_neg c_1, if_pos c_3]
    exact jx_iret () hx hb hr hlocks hK hP hD hS (by rw [hq]) (by rw [hq]) dX1_pass_59
  by_cases c_5 : (f0 a0.toNatClampNeg) = (2 : Int32)
  · skip
    refine lv_tableIn (off := 54) (tgt := 60) hx hb dX1_pass_6 (by rw [c_5]; decide) (by rw [c_5]; decide) (by rw [c_5]; rfl) (by decide) ?_
    refine lv_aload_n hx hb dX1_pass_60 rfl (lv_at hl 0 rfl) ?_
    refine lv_aload_n hx hb dX1_pass_61 rfl (lv_at hl 0 rfl) ?_
    refine jx_get (v := .ref (R 1)) hx hb hts iX1_pass_1 hown hK hP 0 rfl rfl 1 (by decide) hk17 rfl rfl dX1_pass_62 ?_
    refine lv_iload_n hx hb dX1_pass_65 rfl (lv_at hl 1 rfl) ?_
    refine va_iald hx hb hK hP 2 0 rfl rfl hi dX1_pass_66 ?_
    refine lv_topi (fun v_6 ev_6 => ?_)
    refine jx_put (w2 := [(h, .inr (1, (oX1 R (upd I 10 v_6) L))), ((R 0), .inl (cI, 80, .inl f0)), ((R 1), .inl (cI, 80, .inl f1)), ((R 2), .inl (cI, 80, .inl f2)), ((R 3), .inl (cJ, 80, .inr (.inl f3))), ((R 4), .inl (cI, 80, .inl f4)), ((R 5), .inl (cI, 80, .inl f5))]) hx hb hts iX1_pass_1 tyX1 tyX1_ok nmX1 hown hK hP hD hS 0 rfl rfl 10 (by decide) hk47 rfl rfl rfl rfl (Nat.le_of_ble_eq_true rfl) dX1_pass_67 rfl (fun H locs hP hD hS => ?_)
    refine lv_iload_n hx hb dX1_pass_70 rfl (lv_at hl 1 rfl) ?_
    refine lv_iconst (v := 1) hx hb dX1_pass_71 (by decide) ?_
    refine lv_iadd hx hb dX1_pass_72 ?_
    have hq : (sX1_pass I L f0 f1 f2 f3 f4 f5 a0) = ((a0 + (1 : Int32)), (upd I 10 v_6), L) := by clear hP hD hl; subst ev_6; first | (rw [sX1_pass, if_neg c_1, if_neg c_3, if_pos c_5]; done) | simp only [sX1_pass, if_neg c_1, if_neg c_3, if_pos c_5]
    exact jx_iret () hx hb hr hlocks hK hP hD hS (by rw [hq]) (by rw [hq]) dX1_pass_73
  have hout : (f0 a0.toNatClampNeg).toInt < 0 ∨ 2 < (f0 a0.toNatClampNeg).toInt := by
    have z0 := lv_neT c_1 (show (0 : Int32).toInt = 0 by decide)
    have z1 := lv_neT c_3 (show (1 : Int32).toInt = 1 by decide)
    have z2 := lv_neT c_5 (show (2 : Int32).toInt = 2 by decide)
    omega
  refine lv_tableOut (tgt := 74) hx hb dX1_pass_6 hout (by decide) ?_
  refine lv_aload_n hx hb dX1_pass_74 rfl (lv_at hl 0 rfl) ?_
  refine lv_iload_n hx hb dX1_pass_75 rfl (lv_at hl 1 rfl) ?_
  refine jx_calli (wc := [(h, .inr (1, (oX1 R I L))), ((R 0), .inl (cI, 80, .inl f0)), ((R 1), .inl (cI, 80, .inl f1)), ((R 2), .inl (cI, 80, .inl f2)), ((R 3), .inl (cJ, 80, .inr (.inl f3))), ((R 4), .inl (cI, 80, .inl f4)), ((R 5), .inl (cI, 80, .inl f5))]) (wr := []) hP hD hS hA hK [0, 1, 2, 3, 4, 5, 6] [] rfl rfl (by decide) (by decide) (by decide) (fun hPc hDc hF => jx_runV (As := [.int a0]) (rest := []) (n := 1) (ci := 1) (q0 := 0) hx hb hml hown hts hK hX hS hl.1 (kX1_passBracket l D cI cJ cZ cD tA h R I L f0 f1 f2 f3 f4 f5 a0 hi) gX1_pass_X1_passBracket rfl rfl rfl (by decide +kernel) ⟨Nat.le_of_ble_eq_true rfl, Nat.le_of_ble_eq_true rfl⟩ rfl rfl rfl rfl rfl (Nat.le_of_ble_eq_true rfl) dX1_pass_76 ⟨Nat.zero_le _, Nat.zero_le _⟩ hPc hDc hF) (fun r_7 u H locs er_7 hP hD hS => ?_)
  have er_7 : r_7 = (sX1_passBracket I L f0 f1 f2 f3 f4 f5 a0).1 := er_7
  obtain ⟨I_8, eI_8⟩ : ∃ x : (Nat → Int32), x = (sX1_passBracket I L f0 f1 f2 f3 f4 f5 a0).2.1 := ⟨_, rfl⟩
  obtain ⟨L_9, eL_9⟩ : ∃ x : (Nat → Int64), x = (sX1_passBracket I L f0 f1 f2 f3 f4 f5 a0).2.2 := ⟨_, rfl⟩
  have hP : va_P D vwCl [(h, .inr (1, (oX1 R I_8 L_9))), ((R 0), .inl (cI, 80, .inl f0)), ((R 1), .inl (cI, 80, .inl f1)), ((R 2), .inl (cI, 80, .inl f2)), ((R 3), .inl (cJ, 80, .inr (.inl f3))), ((R 4), .inl (cI, 80, .inl f4)), ((R 5), .inl (cI, 80, .inl f5))] H := by rw [eI_8, eL_9]; exact hP
  have hD : va_D A [(h, .inr (1, (oX1 R I_8 L_9))), ((R 0), .inl (cI, 80, .inl f0)), ((R 1), .inl (cI, 80, .inl f1)), ((R 2), .inl (cI, 80, .inl f2)), ((R 3), .inl (cJ, 80, .inr (.inl f3))), ((R 4), .inl (cI, 80, .inl f4)), ((R 5), .inl (cI, 80, .inl f5))] := by rw [eI_8, eL_9]; exact hD
  have hq : (sX1_pass I L f0 f1 f2 f3 f4 f5 a0) = (r_7, I_8, L_9) := by clear hP hD hl; subst eL_9; subst eI_8; subst er_7; first | (rw [sX1_pass, if_neg c_1, if_neg c_3, if_neg c_5]; done) | simp only [sX1_pass, if_neg c_1, if_neg c_3, if_neg c_5]
  exact jx_iret () hx hb hr hlocks hK hP hD hS (by rw [hq]) (by rw [hq]) dX1_pass_79
end
section
/-- the place behind the blanks, n of them at most -/
def bbF (I : Nat → Int32) (f0 : Nat → Int32) : Nat → Int32 → Int32
  | 0, p => p
  | n + 1, p => if sX5_charOf I f0 p = 32 then bbF I f0 n (p + 1) else p
def sX5_behindBlanks (I : Nat → Int32) (f0 : Nat → Int32) (a0 : Int32) : Int32 := bbF I f0 160 a0
theorem nI_lt160 {k : Nat} (hk : k ≤ 160) : (160 : Int32) ≤ nI k ↔ k = 160 := by
  rw [show (160 : Int32) = nI 160 from rfl, nI_leI (by omega) (by omega)]; omega
set_option maxHeartbeats 4000000 in
set_option maxRecDepth 100000 in
theorem kX5_behindBlanks (l : Launch) (D : va_G) (cI cJ cZ cD : ClassId) (tA : Nat) (h : Nat) (R : Nat → Nat) (I : Nat → Int32) (L : Nat → Int64) (f0 : Nat → Int32) (a0 : Int32) (hs : (I 1).toInt ≤ 160) : jx_Ms l yX5_behindBlanks wsX5_behindBlanks ({ frames := 1, cells := 0, slots := 0, locals := 21 }) D (jT cI cJ cZ cD) tA [.ref h, .int a0] [(h, .inr (5, (oX5 R I L))), ((R 0), .inl (cI, 160, .inl f0))] (vp_Si (fun r => r = (sX5_behindBlanks I f0 a0))) := by
  refine jx_ofs (cc := cX5_behindBlanks) (maxL := 4) (ret := (some .int)) (by decide +kernel) rfl (Nat.le_of_ble_eq_true rfl) ?_
  intro p e s m below meth c A ls hx hb hr hlocks hml hown hts hK hP hD hA hS hX hl
  have hl : lv_has ls 4 [(0, .ref h), (1, .int a0)] := hl
  have hown : s.vm.findClass RX5 = some m.cls := hown
  refine lv_iload_n hx hb dX5_behindBlanks_0 rfl (lv_at hl 1 rfl) ?_
  refine lv_istore_n (lv' := [(2, .int a0), (0, .ref h), (1, .int a0)]) hx hb dX5_behindBlanks_1 rfl hl (by decide) rfl (fun ls hl => ?_)
  refine lv_iconst (v := 0) hx hb dX5_behindBlanks_2 (by decide) ?_
  refine lv_istore_n (lv' := [(3, .int (0 : Int32)), (2, .int a0), (0, .ref h), (1, .int a0)]) hx hb dX5_behindBlanks_3 rfl hl (by decide) rfl (fun ls hl => ?_)
  refine jx_loop (σ := (Int32) × (Int32) × (Nat) × (Unit)) (fun x H locs ls => H = s.heap ∧ locs = [] ∧ lv_has ls 4 [(0, .ref h), (1, .int a0), (2, .int x.1), (3, .int x.2.1)] ∧ (x.2.1 = nI x.2.2.1 ∧ x.2.2.1 ≤ 160 ∧ bbF I f0 (160 - x.2.2.1) x.1 = sX5_behindBlanks I f0 a0)) (fun x => 160 - x.2.2.1) (a0, (0 : Int32), 0, ()) ⟨rfl, rfl, lv_sub hl [2, 3, 1, 0] rfl, (show (0 : Int32) = nI 0 ∧ 0 ≤ 160 ∧ bbF I f0 (160 - 0) a0 = sX5_behindBlanks I f0 a0 from ⟨rfl, by omega, rfl⟩)⟩ ?_
  intro x H locs ls hI ih
  obtain ⟨pp, ii, kk, ux⟩ := x
  obtain ⟨rfl, rfl, hl, hp⟩ := hI
  have hl : lv_has ls 4 [(0, .ref h), (1, .int a0), (2, .int pp), (3, .int ii)] := hl
  have hp : ii = nI kk ∧ kk ≤ 160 ∧ bbF I f0 (160 - kk) pp = sX5_behindBlanks I f0 a0 := hp
  refine lv_iload_n hx hb dX5_behindBlanks_4 rfl (lv_at hl 3 rfl) ?_
  refine lv_sipush (v := 160) hx hb dX5_behindBlanks_5 (by decide) ?_
  refine lv_icmp_ge (tgt := 30) hx hb dX5_behindBlanks_8 (by decide) (fun c_1 => ?_) (fun c_1 => ?_)
  · skip
    refine lv_iload_n hx hb dX5_behindBlanks_30 rfl (lv_at hl 2 rfl) ?_
    have hq : (sX5_behindBlanks I f0 a0) = pp := (by obtain ⟨h1, h2, h3⟩ := hp; have h4 := (nI_lt160 h2).mp (h1 ▸ c_1); rw [← h3, h4]; rfl)
    exact jx_siret hx hb hr hlocks hq.symm dX5_behindBlanks_31
  · skip
    refine lv_aload_n hx hb dX5_behindBlanks_11 rfl (lv_at hl 0 rfl) ?_
    refine lv_iload_n hx hb dX5_behindBlanks_12 rfl (lv_at hl 2 rfl) ?_
    refine jx_pcalli (wc := [(h, .inr (5, (oX5 R I L))), ((R 0), .inl (cI, 160, .inl f0))]) hP hD hS hA [0, 1] rfl (by decide) (fun hPc hDc hF => jx_runVs (As := [.int pp]) (rest := []) (n := 1) (ci := 5) (q0 := 0) hx hb hml hown hts hK hX hS hl.1 (kX5_charOf l D cI cJ cZ cD tA h R I L f0 pp hs) gX5_behindBlanks_X5_charOf rfl rfl rfl (by decide +kernel) ⟨Nat.le_of_ble_eq_true rfl, Nat.le_of_ble_eq_true rfl⟩ rfl rfl rfl rfl rfl (Nat.le_of_ble_eq_true rfl) dX5_behindBlanks_13 ⟨Nat.zero_le _, Nat.zero_le _⟩ hPc hDc hF) (fun r_2 er_2 => ?_)
    have er_2 : r_2 = (sX5_charOf I f0 pp) := er_2
    refine lv_bipush (v := 32) hx hb dX5_behindBlanks_16 (by decide) ?_
    refine lv_icmp_ne (tgt := 30) hx hb dX5_behindBlanks_18 (by decide) (fun c_3 => ?_) (fun c_3 => ?_)
    · skip
      refine lv_iload_n hx hb dX5_behindBlanks_30 rfl (lv_at hl 2 rfl) ?_
      have hq : (sX5_behindBlanks I f0 a0) = pp := (by obtain ⟨h1, h2, h3⟩ := hp; have h4 : kk ≠ 160 := fun z => c_1 (by rw [h1]; exact (nI_lt160 h2).mpr z); rw [← h3, show 160 - kk = (160 - (kk + 1)) + 1 from by omega, bbF, ← er_2, if_neg c_3])
      exact jx_siret hx hb hr hlocks hq.symm dX5_behindBlanks_31
    · skip
      obtain ⟨v_4, ev_4⟩ : ∃ y : Int32, y = pp + (1 : Int32) := ⟨_, rfl⟩
      refine lv_iinc (v := v_4) (lv' := [(2, .int v_4), (0, .ref h), (1, .int a0), (3, .int ii)]) hx hb dX5_behindBlanks_21 hl (k := 2) rfl (by rw [ev_4]; rfl) (by decide) rfl (fun ls hl => ?_)
      obtain ⟨v_5, ev_5⟩ : ∃ y : Int32, y = ii + (1 : Int32) := ⟨_, rfl⟩
      refine lv_iinc (v := v_5) (lv' := [(3, .int v_5), (2, .int v_4), (0, .ref h), (1, .int a0)]) hx hb dX5_behindBlanks_24 hl (k := 3) rfl (by rw [ev_5]; rfl) (by decide) rfl (fun ls hl => ?_)
      refine lv_goto (tgt := 4) hx hb dX5_behindBlanks_27 (by decide) ?_
      exact ih (v_4, v_5, kk + 1, ()) _ _ _ ⟨rfl, rfl, lv_sub hl [2, 3, 1, 0] rfl, (show v_5 = nI (kk + 1) ∧ (kk + 1) ≤ 160 ∧ bbF I f0 (160 - (kk + 1)) v_4 = sX5_behindBlanks I f0 a0 from (by obtain ⟨h1, h2, h3⟩ := hp; have h4 : kk ≠ 160 := fun z => c_1 (by rw [h1]; exact (nI_lt160 h2).mpr z); refine ⟨by rw [ev_5, h1]; exact nI_1 kk, by omega, ?_⟩; rw [← h3, show 160 - kk = (160 - (kk + 1)) + 1 from by omega, bbF, ← er_2, if_pos c_3, ev_4]))⟩ (show 160 - (kk + 1) < 160 - kk from (by obtain ⟨h1, h2, h3⟩ := hp; have h4 : kk ≠ 160 := fun z => c_1 (by rw [h1]; exact (nI_lt160 h2).mpr z); show 160 - (kk + 1) < 160 - kk; omega))
end
section
theorem jx_nat {x : Int32} (h : 0 ≤ x.toInt) : x = nI x.toInt.toNat := by
  apply Int32.toInt_inj.mp
  obtain ⟨a, b⟩ := jx_rg32 x
  rw [nI_toInt (by omega)]; omega
theorem jx_natR {x : Int32} {a b : Nat} (h1 : (a : Int) ≤ x.toInt) (h2 : x.toInt ≤ b) : ∃ n : Nat, a ≤ n ∧ n ≤ b ∧ x = nI n := ⟨x.toInt.toNat, by omega, by omega, jx_nat (by omega)⟩
theorem nI_m1 {n : Nat} (h : n < 2 ^ 31) : (nI n - 1).toInt = (n : Int) - 1 := by
  rw [Int32.toInt_sub, nI_toInt h, show (1 : Int32).toInt = 1 from rfl]
  exact jx_bm32 (by omega) (by omega)
/-- are all n bytes characters? 1 or 0 -/
def pcF (w : Int64) (n : Int32) : Nat → Int32 → Int32
  | 0, _ => 1
  | m + 1, i => if n ≤ i then 1 else if sX5_byteOf w i < 32 then 0 else if sX5_byteOf w i ≤ 126 then pcF w n m (i + 1) else 0
/-- the bytes go to the tape, the highest first -/
def paF (w : Int64) : Nat → Int32 → (Nat → Int32) → (Nat → Int32) → (Nat → Int32) × (Nat → Int32)
  | 0, _, I, f => (I, f)
  | m + 1, i, I, f => if i < 0 then (I, f) else paF w m (i + (-1)) (sX5_add I f (sX5_byteOf w i)).1 (sX5_add I f (sX5_byteOf w i)).2
def sX5_put (I : Nat → Int32) (f0 : Nat → Int32) (a0 : Int64) (a1 : Int32) : Int32 × (Nat → Int32) × (Nat → Int32) :=
  if a1 < 1 then (0, I, f0) else if 8 < a1 then (0, I, f0) else if I 1 + a1 ≤ 160 then (if pcF a0 a1 9 0 = 0 then (0, I, f0) else (1, paF a0 (a1.toNatClampNeg + 1) (a1 - 1) I f0)) else (0, I, f0)
def pcI (w : Int64) (n : Int32) (kk : Nat) (ii : Int32) : Prop := ii = nI kk ∧ kk ≤ 8 ∧ pcF w n (9 - kk) ii = pcF w n 9 0
theorem pcI_step {w : Int64} {n ii : Int32} {kk nn : Nat} (hn : n = nI nn) (hn2 : nn ≤ 8) (h : pcI w n kk ii) (c1 : ¬ n ≤ ii) (c2 : ¬ sX5_byteOf w ii < 32) (c3 : sX5_byteOf w ii ≤ 126) : pcI w n (kk + 1) (ii + 1) ∧ 9 - (kk + 1) < 9 - kk := by
  obtain ⟨h1, h2, h3⟩ := h
  have h4 : kk < 8 := by rw [h1, hn, nI_leI (by omega) (by omega)] at c1; omega
  refine ⟨⟨by rw [h1]; exact nI_1 kk, by omega, ?_⟩, by omega⟩
  rw [← h3, show 9 - kk = (9 - (kk + 1)) + 1 from by omega, pcF, if_neg c1, if_neg c2, if_pos c3]
theorem pcI_bad1 {w : Int64} {n ii : Int32} {kk : Nat} (h : pcI w n kk ii) (c1 : ¬ n ≤ ii) (c2 : sX5_byteOf w ii < 32) : pcF w n 9 0 = 0 := by
  obtain ⟨h1, h2, h3⟩ := h
  rw [← h3, show 9 - kk = (8 - kk) + 1 from by omega, pcF, if_neg c1, if_pos c2]
theorem pcI_bad2 {w : Int64} {n ii : Int32} {kk : Nat} (h : pcI w n kk ii) (c1 : ¬ n ≤ ii) (c2 : ¬ sX5_byteOf w ii < 32) (c3 : ¬ sX5_byteOf w ii ≤ 126) : pcF w n 9 0 = 0 := by
  obtain ⟨h1, h2, h3⟩ := h
  rw [← h3, show 9 - kk = (8 - kk) + 1 from by omega, pcF, if_neg c1, if_neg c2, if_neg c3]
theorem pcI_end {w : Int64} {n ii : Int32} {kk : Nat} (h : pcI w n kk ii) (c1 : n ≤ ii) : pcF w n 9 0 = 1 := by
  obtain ⟨h1, h2, h3⟩ := h
  rw [← h3, show 9 - kk = (8 - kk) + 1 from by omega, pcF, if_pos c1]
def paI (w : Int64) (a1 : Int32) (I f0 : Nat → Int32) (mm : Nat) (jj : Int32) (J g : Nat → Int32) : Prop := jj = nI mm - 1 ∧ mm ≤ 8 ∧ paF w (mm + 1) jj J g = paF w (a1.toNatClampNeg + 1) (a1 - 1) I f0
theorem paI_step {w : Int64} {a1 : Int32} {I f0 : Nat → Int32} {mm : Nat} {jj : Int32} {J g : Nat → Int32} (h : paI w a1 I f0 mm jj J g) (c : ¬ jj < 0) : paI w a1 I f0 (mm - 1) (jj + (-1)) (sX5_add J g (sX5_byteOf w jj)).1 (sX5_add J g (sX5_byteOf w jj)).2 ∧ mm - 1 < mm := by
  obtain ⟨h1, h2, h3⟩ := h
  cases mm with
  | zero => exact absurd (by rw [h1]; decide) c
  | succ q =>
    refine ⟨⟨?_, by omega, ?_⟩, by omega⟩
    · rw [h1, nI_pred, Nat.add_sub_cancel]; exact (Int32.sub_eq_add_neg _ _).symm
    · rw [← h3, Nat.add_sub_cancel, paF.eq_def w (q + 1 + 1)]
      simp only [if_neg c]
theorem paI_end {w : Int64} {a1 : Int32} {I f0 : Nat → Int32} {mm : Nat} {jj : Int32} {J g : Nat → Int32} (h : paI w a1 I f0 mm jj J g) (c : jj < 0) : paF w (a1.toNatClampNeg + 1) (a1 - 1) I f0 = (J, g) := by
  obtain ⟨h1, h2, h3⟩ := h
  rw [← h3, paF, if_pos c]
set_option maxRecDepth 20000 in
theorem iX5_put_5 : ∀ w ∈ wsX50, w ∈ wsX5_put := by decide +kernel
set_option maxHeartbeats 4000000 in
set_option maxRecDepth 100000 in
theorem kX5_put (l : Launch) (D : va_G) (cI cJ cZ cD : ClassId) (tA : Nat) (h : Nat) (R : Nat → Nat) (I : Nat → Int32) (L : Nat → Int64) (f0 : Nat → Int32) (a0 : Int64) (a1 : Int32) : jx_M l yX5_put wsX5_put ({ frames := 1, cells := 0, slots := 0, locals := 22 }) D (jT cI cJ cZ cD) tA [.ref h, .long a0, .int a1] [(h, .inr (5, (oX5 R I L))), ((R 0), .inl (cI, 160, .inl f0))] (jx_Qi D (jT cI cJ cZ cD) (fun r (_ : Unit) => r = (sX5_put I f0 a0 a1).1) (fun _ => [(h, .inr (5, (oX5 R (sX5_put I f0 a0 a1).2.1 L))), ((R 0), .inl (cI, 160, .inl ((sX5_put I f0 a0 a1).2.2)))])) := by
  refine jx_of (cc := cX5_put) (maxL := 6) (ret := (some .boolean)) (by decide +kernel) rfl (Nat.le_of_ble_eq_true rfl) ?_
  intro p e s m below meth c A ls hx hb hr hlocks hml hown hts hK hP hD hA hS hX hl
  have hl : lv_has ls 6 [(0, .ref h), (1, .long a0), (3, .int a1)] := hl
  have hown : s.vm.findClass RX5 = some m.cls := hown
  have hk15 := hts (.fieldLink RX5 15 "LoomDesk$Tape" "size" "I") (by decide +kernel)
  refine lv_iload_n hx hb dX5_put_0 rfl (lv_at hl 2 rfl) ?_
  refine lv_iconst (v := 1) hx hb dX5_put_1 (by decide) ?_
  refine lv_icmp_lt (tgt := 23) hx hb dX5_put_2 (by decide) (fun c_1 => ?_) (fun c_1 => ?_)
  · skip
    refine lv_iconst (v := 0) hx hb dX5_put_23 (by decide) ?_
    have hq : (sX5_put I f0 a0 a1) = ((0 : Int32), I, f0) := (by rw [sX5_put, if_pos c_1])
    exact jx_zret () hx hb hr hlocks hK hP hD hS (by rw [hq]) (by rw [hq]) (Or.inl rfl) dX5_put_24
  · skip
    refine lv_iload_n hx hb dX5_put_5 rfl (lv_at hl 2 rfl) ?_
    refine lv_bipush (v := 8) hx hb dX5_put_6 (by decide) ?_
    refine lv_icmp_gt (tgt := 23) hx hb dX5_put_8 (by decide) (fun c_2 => ?_) (fun c_2 => ?_)
    · skip
      refine lv_iconst (v := 0) hx hb dX5_put_23 (by decide) ?_
      have hq : (sX5_put I f0 a0 a1) = ((0 : Int32), I, f0) := (by rw [sX5_put, if_neg c_1, if_pos c_2])
      exact jx_zret () hx hb hr hlocks hK hP hD hS (by rw [hq]) (by rw [hq]) (Or.inl rfl) dX5_put_24
    · skip
      refine lv_aload_n hx hb dX5_put_11 rfl (lv_at hl 0 rfl) ?_
      refine jx_get (v := .int (I 1)) hx hb hts iX5_put_5 hown hK hP 0 rfl rfl 1 (by decide) hk15 rfl rfl dX5_put_12 ?_
      refine lv_iload_n hx hb dX5_put_15 rfl (lv_at hl 2 rfl) ?_
      refine lv_iadd hx hb dX5_put_16 ?_
      refine lv_sipush (v := 160) hx hb dX5_put_17 (by decide) ?_
      refine lv_icmp_le (tgt := 25) hx hb dX5_put_20 (by decide) (fun c_3 => ?_) (fun c_3 => ?_)
      · skip
        obtain ⟨nn, hn1, hn2, hn⟩ : ∃ n : Nat, 1 ≤ n ∧ n ≤ 8 ∧ a1 = nI n := jx_natR (by have z := c_1; rw [Int32.lt_iff_toInt_lt] at z; have : (1 : Int32).toInt = 1 := rfl; omega) (by have z := c_2; rw [Int32.lt_iff_toInt_lt] at z; have : (8 : Int32).toInt = 8 := rfl; omega)
        refine lv_iconst (v := 0) hx hb dX5_put_25 (by decide) ?_
        refine lv_istore (lv' := [(4, .int (0 : Int32)), (0, .ref h), (1, .long a0), (3, .int a1)]) hx hb dX5_put_26 hl (by decide) rfl (fun ls hl => ?_)
        refine jx_loop (σ := (Int32) × (Nat) × (Unit)) (fun x H locs ls => va_P D vwCl [(h, .inr (5, (oX5 R I L))), ((R 0), .inl (cI, 160, .inl f0))] H ∧ va_D A [(h, .inr (5, (oX5 R I L))), ((R 0), .inl (cI, 160, .inl f0))] ∧ va_S A s.heap H locs ∧ lv_has ls 6 [(0, .ref h), (1, .long a0), (3, .int a1), (4, .int x.1)] ∧ (pcI a0 a1 x.2.1 x.1)) (fun x => 9 - x.2.1) ((0 : Int32), 0, ()) ⟨hP, hD, hS, lv_sub hl [1, 2, 3, 0] rfl, (show pcI a0 a1 0 (0 : Int32) from ⟨rfl, by omega, rfl⟩)⟩ ?_
        intro x H locs ls hI ih
        obtain ⟨ii, kk, ux⟩ := x
        obtain ⟨hP, hD, hS, hl, hp⟩ := hI
        have hP : va_P D vwCl [(h, .inr (5, (oX5 R I L))), ((R 0), .inl (cI, 160, .inl f0))] H := hP
        have hD : va_D A [(h, .inr (5, (oX5 R I L))), ((R 0), .inl (cI, 160, .inl f0))] := hD
        have hl : lv_has ls 6 [(0, .ref h), (1, .long a0), (3, .int a1), (4, .int ii)] := hl
        have hp : pcI a0 a1 kk ii := hp
        refine lv_iload hx hb dX5_put_28 (lv_at hl 3 rfl) ?_
        refine lv_iload_n hx hb dX5_put_30 rfl (lv_at hl 2 rfl) ?_
        refine lv_icmp_ge (tgt := 64) hx hb dX5_put_31 (by decide) (fun c_4 => ?_) (fun c_4 => ?_)
        · skip
          have hok : pcF a0 a1 9 0 = 1 := pcI_end hp c_4
          refine lv_iload_n hx hb dX5_put_64 rfl (lv_at hl 2 rfl) ?_
          refine lv_iconst (v := 1) hx hb dX5_put_65 (by decide) ?_
          refine lv_isub hx hb dX5_put_66 ?_
          refine lv_topi (fun v_5 ev_5 => ?_)
          refine lv_istore (lv' := [(4, .int v_5), (0, .ref h), (1, .long a0), (3, .int a1)]) hx hb dX5_put_67 hl (by decide) rfl (fun ls hl => ?_)
          refine jx_loop (σ := (Int32) × ((Nat → Int32)) × ((Nat → Int32)) × (Nat) × (Unit)) (fun x H locs ls => va_P D vwCl [(h, .inr (5, (oX5 R x.2.1 L))), ((R 0), .inl (cI, 160, .inl x.2.2.1))] H ∧ va_D A [(h, .inr (5, (oX5 R x.2.1 L))), ((R 0), .inl (cI, 160, .inl x.2.2.1))] ∧ va_S A s.heap H locs ∧ lv_has ls 6 [(0, .ref h), (1, .long a0), (3, .int a1), (4, .int x.1)] ∧ (paI a0 a1 I f0 x.2.2.2.1 x.1 x.2.1 x.2.2.1)) (fun x => x.2.2.2.1) (v_5, I, f0, nn, ()) ⟨hP, hD, hS, lv_sub hl [1, 2, 3, 0] rfl, (show paI a0 a1 I f0 nn v_5 I f0 from (by clear hP hD hl; subst ev_5; exact ⟨by rw [hn], hn2, by rw [hn, nI_clamp (by omega)]⟩))⟩ ?_
          intro x H locs ls hI ih
          obtain ⟨jj, J, g, mm, ux⟩ := x
          obtain ⟨hP, hD, hS, hl, hp⟩ := hI
          have hP : va_P D vwCl [(h, .inr (5, (oX5 R J L))), ((R 0), .inl (cI, 160, .inl g))] H := hP
          have hD : va_D A [(h, .inr (5, (oX5 R J L))), ((R 0), .inl (cI, 160, .inl g))] := hD
          have hl : lv_has ls 6 [(0, .ref h), (1, .long a0), (3, .int a1), (4, .int jj)] := hl
          have hp : paI a0 a1 I f0 mm jj J g := hp
          refine lv_iload hx hb dX5_put_69 (lv_at hl 3 rfl) ?_
          refine lv_if_lt (tgt := 90) hx hb dX5_put_71 (by decide) (fun c_6 => ?_) (fun c_6 => ?_)
          · skip
            refine lv_iconst (v := 1) hx hb dX5_put_90 (by decide) ?_
            have hq : (sX5_put I f0 a0 a1) = ((1 : Int32), J, g) := (by rw [sX5_put, if_neg c_1, if_neg c_2, if_pos c_3]; rw [hok, if_neg (by decide), paI_end hp c_6])
            exact jx_zret () hx hb hr hlocks hK hP hD hS (by rw [hq]) (by rw [hq]) (Or.inr rfl) dX5_put_91
          · skip
            refine lv_aload_n hx hb dX5_put_74 rfl (lv_at hl 0 rfl) ?_
            refine lv_lload_n hx hb dX5_put_75 rfl (lv_at hl 1 rfl) ?_
            refine lv_iload hx hb dX5_put_76 (lv_at hl 3 rfl) ?_
            refine jx_pcalli (wc := []) hP hD hS hA [] rfl (by decide) (fun hPc hDc hF => jx_runSs (As := [.long a0, .int jj]) (rest := [.ref h]) (n := 2) hx hb hml hown hts hK hX hS hl.1 (kX5_byteOf l D cI cJ cZ cD tA a0 jj) gX5_put_X5_byteOf rfl rfl rfl (by decide +kernel) ⟨Nat.le_of_ble_eq_true rfl, Nat.le_of_ble_eq_true rfl⟩ rfl rfl (Nat.le_of_ble_eq_true rfl) dX5_put_78 ⟨Nat.zero_le _, Nat.zero_le _⟩ hPc hDc hF) (fun r_7 er_7 => ?_)
            have er_7 : r_7 = (sX5_byteOf a0 jj) := er_7
            refine jx_callv (wc := [(h, .inr (5, (oX5 R J L))), ((R 0), .inl (cI, 160, .inl g))]) (wr := []) hP hD hS hA hK [0, 1] [] rfl rfl (by decide) (by decide) (by decide) (fun hPc hDc hF => jx_runV (As := [.int r_7]) (rest := []) (n := 1) (ci := 5) (q0 := 0) hx hb hml hown hts hK hX hS hl.1 (kX5_add l D cI cJ cZ cD tA h R J L g r_7) gX5_put_X5_add rfl rfl rfl (by decide +kernel) ⟨Nat.le_of_ble_eq_true rfl, Nat.le_of_ble_eq_true rfl⟩ rfl rfl rfl rfl rfl (Nat.le_of_ble_eq_true rfl) dX5_put_81 ⟨Nat.zero_le _, Nat.zero_le _⟩ hPc hDc hF) (fun u H locs hw hP hD hS => ?_)
            obtain ⟨I_9, eI_9⟩ : ∃ x : (Nat → Int32), x = (sX5_add J g r_7).1 := ⟨_, rfl⟩
            obtain ⟨f_10, ef_10⟩ : ∃ x : (Nat → Int32), x = (sX5_add J g r_7).2 := ⟨_, rfl⟩
            have hP : va_P D vwCl [(h, .inr (5, (oX5 R I_9 L))), ((R 0), .inl (cI, 160, .inl f_10))] H := by rw [eI_9, ef_10]; exact hP
            have hD : va_D A [(h, .inr (5, (oX5 R I_9 L))), ((R 0), .inl (cI, 160, .inl f_10))] := by rw [eI_9, ef_10]; exact hD
            obtain ⟨v_11, ev_11⟩ : ∃ y : Int32, y = jj + (-1 : Int32) := ⟨_, rfl⟩
            refine lv_iinc (v := v_11) (lv' := [(4, .int v_11), (0, .ref h), (1, .long a0), (3, .int a1)]) hx hb dX5_put_84 hl (k := 3) rfl (by rw [ev_11]; rfl) (by decide) rfl (fun ls hl => ?_)
            refine lv_goto (tgt := 69) hx hb dX5_put_87 (by decide) ?_
            exact ih (v_11, I_9, f_10, mm - 1, ()) _ _ _ ⟨hP, hD, hS, lv_sub hl [1, 2, 3, 0] rfl, (show paI a0 a1 I f0 (mm - 1) v_11 I_9 f_10 from (by clear hP hD hl; subst ev_11; subst ef_10; subst eI_9; subst er_7; subst ev_5; exact (paI_step hp c_6).1))⟩ (show (mm - 1) < mm from (by clear hP hD hl; subst ev_11; subst ef_10; subst eI_9; subst er_7; subst ev_5; exact (paI_step hp c_6).2))
        · skip
          refine lv_lload_n hx hb dX5_put_34 rfl (lv_at hl 1 rfl) ?_
          refine lv_iload hx hb dX5_put_35 (lv_at hl 3 rfl) ?_
          refine jx_pcalli (wc := []) hP hD hS hA [] rfl (by decide) (fun hPc hDc hF => jx_runSs (As := [.long a0, .int ii]) (rest := []) (n := 2) hx hb hml hown hts hK hX hS hl.1 (kX5_byteOf l D cI cJ cZ cD tA a0 ii) gX5_put_X5_byteOf rfl rfl rfl (by decide +kernel) ⟨Nat.le_of_ble_eq_true rfl, Nat.le_of_ble_eq_true rfl⟩ rfl rfl (Nat.le_of_ble_eq_true rfl) dX5_put_37 ⟨Nat.zero_le _, Nat.zero_le _⟩ hPc hDc hF) (fun r_12 er_12 => ?_)
          have er_12 : r_12 = (sX5_byteOf a0 ii) := er_12
          refine lv_istore (lv' := [(5, .int r_12), (0, .ref h), (1, .long a0), (3, .int a1), (4, .int ii)]) hx hb dX5_put_40 hl (by decide) rfl (fun ls hl => ?_)
          refine lv_iload hx hb dX5_put_42 (lv_at hl 0 rfl) ?_
          refine lv_bipush (v := 32) hx hb dX5_put_44 (by decide) ?_
          refine lv_icmp_lt (tgt := 56) hx hb dX5_put_46 (by decide) (fun c_13 => ?_) (fun c_13 => ?_)
          · skip
            refine lv_iconst (v := 0) hx hb dX5_put_56 (by decide) ?_
            have hq : (sX5_put I f0 a0 a1) = ((0 : Int32), I, f0) := (by clear hP hD hl; subst er_12; have h9 := pcI_bad1 hp c_4 c_13; rw [sX5_put, if_neg c_1, if_neg c_2, if_pos c_3]; rw [if_pos h9])
            exact jx_zret () hx hb hr hlocks hK hP hD hS (by rw [hq]) (by rw [hq]) (Or.inl rfl) dX5_put_57
          · skip
            refine lv_iload hx hb dX5_put_49 (lv_at hl 0 rfl) ?_
            refine lv_bipush (v := 126) hx hb dX5_put_51 (by decide) ?_
            refine lv_icmp_le (tgt := 58) hx hb dX5_put_53 (by decide) (fun c_14 => ?_) (fun c_14 => ?_)
            · skip
              obtain ⟨v_15, ev_15⟩ : ∃ y : Int32, y = ii + (1 : Int32) := ⟨_, rfl⟩
              refine lv_iinc (v := v_15) (lv' := [(4, .int v_15), (5, .int r_12), (0, .ref h), (1, .long a0), (3, .int a1)]) hx hb dX5_put_58 hl (k := 4) rfl (by rw [ev_15]; rfl) (by decide) rfl (fun ls hl => ?_)
              refine lv_goto (tgt := 28) hx hb dX5_put_61 (by decide) ?_
              exact ih (v_15, kk + 1, ()) _ _ _ ⟨hP, hD, hS, lv_sub hl [2, 3, 4, 0] rfl, (show pcI a0 a1 (kk + 1) v_15 from (by clear hP hD hl; subst ev_15; subst er_12; exact (pcI_step hn hn2 hp c_4 c_13 c_14).1))⟩ (show 9 - (kk + 1) < 9 - kk from (by clear hP hD hl; subst ev_15; subst er_12; exact (pcI_step hn hn2 hp c_4 c_13 c_14).2))
            · skip
              refine lv_iconst (v := 0) hx hb dX5_put_56 (by decide) ?_
              have hq : (sX5_put I f0 a0 a1) = ((0 : Int32), I, f0) := (by clear hP hD hl; subst er_12; have h9 := pcI_bad2 hp c_4 c_13 c_14; rw [sX5_put, if_neg c_1, if_neg c_2, if_pos c_3]; rw [if_pos h9])
              exact jx_zret () hx hb hr hlocks hK hP hD hS (by rw [hq]) (by rw [hq]) (Or.inl rfl) dX5_put_57
      · skip
        refine lv_iconst (v := 0) hx hb dX5_put_23 (by decide) ?_
        have hq : (sX5_put I f0 a0 a1) = ((0 : Int32), I, f0) := (by rw [sX5_put, if_neg c_1, if_neg c_2, if_neg c_3])
        exact jx_zret () hx hb hr hlocks hK hP hD hS (by rw [hq]) (by rw [hq]) (Or.inl rfl) dX5_put_24
end
section
/-- the walk to one pick: n items at most -/
def tellF (f0 f1 f2 : Nat → Int32) (f3 : Nat → Int64) (f4 f5 : Nat → Int32) (w : Int32) : Nat → Int32 → (Nat → Int32) → (Nat → Int64) → Int32 × (Nat → Int32) × (Nat → Int64)
  | 0, _, I, L => (-1, I, L)
  | n + 1, k, I, L => if k < 0 then (-1, I, L) else if I 6 ≤ k then (-1, I, L) else if f0 k.toNatClampNeg = 0 ∧ L 8 = 0 then (sX1_tellHere I (f1 k.toNatClampNeg) w, I, L) else tellF f0 f1 f2 f3 f4 f5 w n (sX1_pass I L f0 f1 f2 f3 f4 f5 k).1 (sX1_pass I L f0 f1 f2 f3 f4 f5 k).2.1 (sX1_pass I L f0 f1 f2 f3 f4 f5 k).2.2
def sX1_tell (I : Nat → Int32) (L : Nat → Int64) (f0 f1 f2 : Nat → Int32) (f3 : Nat → Int64) (f4 f5 : Nat → Int32) (a0 : Int64) (a1 : Int32) : Int32 × (Nat → Int32) × (Nat → Int64) :=
  if sX1_has L a0 = 0 then (-1, I, L) else tellF f0 f1 f2 f3 f4 f5 a1 80 0 (upd (upd I 9 0) 10 100) (vp_updL L 8 a0)
theorem jp_brk6 (I : Nat → Int32) (L : Nat → Int64) (f0 f1 f2 : Nat → Int32) (f3 : Nat → Int64) (f4 f5 : Nat → Int32) (k : Int32) : (sX1_passBracket I L f0 f1 f2 f3 f4 f5 k).2.1 6 = I 6 := by
  unfold sX1_passBracket; repeat' split
  all_goals rfl
theorem jp_pass6 (I : Nat → Int32) (L : Nat → Int64) (f0 f1 f2 : Nat → Int32) (f3 : Nat → Int64) (f4 f5 : Nat → Int32) (k : Int32) : (sX1_pass I L f0 f1 f2 f3 f4 f5 k).2.1 6 = I 6 := by
  unfold sX1_pass; repeat' split
  all_goals first | rfl | exact jp_brk6 ..
theorem nI_lt80 {k : Nat} (hk : k ≤ 80) : (80 : Int32) ≤ nI k ↔ k = 80 := by
  rw [show (80 : Int32) = nI 80 from rfl, nI_leI (by omega) (by omega)]; omega
def tellI (f0 f1 f2 : Nat → Int32) (f3 : Nat → Int64) (f4 f5 : Nat → Int32) (w : Int32) (Z : Int32 × (Nat → Int32) × (Nat → Int64)) (kk : Nat) (ii kt : Int32) (J : Nat → Int32) (M : Nat → Int64) : Prop := ii = nI kk ∧ kk ≤ 80 ∧ tellF f0 f1 f2 f3 f4 f5 w (80 - kk) kt J M = Z ∧ (J 6).toInt ≤ 80
section TELLI
variable {f0 f1 f2 : Nat → Int32} {f3 : Nat → Int64} {f4 f5 : Nat → Int32} {w : Int32} {Z : Int32 × (Nat → Int32) × (Nat → Int64)} {kk : Nat} {ii kt : Int32} {J : Nat → Int32} {M : Nat → Int64}
theorem tellI_ne (h : tellI f0 f1 f2 f3 f4 f5 w Z kk ii kt J M) (c : ¬ 80 ≤ ii) : 80 - kk = (79 - kk) + 1 := by
  obtain ⟨h1, h2, h3, h4⟩ := h
  have : kk ≠ 80 := fun z => c (by rw [h1]; exact (nI_lt80 h2).mpr z)
  omega
theorem tellI_out (h : tellI f0 f1 f2 f3 f4 f5 w Z kk ii kt J M) (c : 80 ≤ ii) : Z = (-1, J, M) := by
  obtain ⟨h1, h2, h3, h4⟩ := h
  have h5 := (nI_lt80 h2).mp (h1 ▸ c)
  rw [← h3, h5]; rfl
theorem tellI_neg (h : tellI f0 f1 f2 f3 f4 f5 w Z kk ii kt J M) (c : ¬ 80 ≤ ii) (c2 : kt < 0) : Z = (-1, J, M) := by
  rw [← h.2.2.1, tellI_ne h c, tellF, if_pos c2]
theorem tellI_end (h : tellI f0 f1 f2 f3 f4 f5 w Z kk ii kt J M) (c : ¬ 80 ≤ ii) (c2 : ¬ kt < 0) (c3 : J 6 ≤ kt) : Z = (-1, J, M) := by
  rw [← h.2.2.1, tellI_ne h c, tellF, if_neg c2, if_pos c3]
theorem tellI_here (h : tellI f0 f1 f2 f3 f4 f5 w Z kk ii kt J M) (c : ¬ 80 ≤ ii) (c2 : ¬ kt < 0) (c3 : ¬ J 6 ≤ kt) (c4 : f0 kt.toNatClampNeg = 0) (c5 : M 8 = 0) : Z = (sX1_tellHere J (f1 kt.toNatClampNeg) w, J, M) := by
  rw [← h.2.2.1, tellI_ne h c, tellF, if_neg c2, if_neg c3, if_pos ⟨c4, c5⟩]
theorem tellI_step (h : tellI f0 f1 f2 f3 f4 f5 w Z kk ii kt J M) (c : ¬ 80 ≤ ii) (c2 : ¬ kt < 0) (c3 : ¬ J 6 ≤ kt) (c4 : ¬ (f0 kt.toNatClampNeg = 0 ∧ M 8 = 0)) : tellI f0 f1 f2 f3 f4 f5 w Z (kk + 1) (ii + 1) (sX1_pass J M f0 f1 f2 f3 f4 f5 kt).1 (sX1_pass J M f0 f1 f2 f3 f4 f5 kt).2.1 (sX1_pass J M f0 f1 f2 f3 f4 f5 kt).2.2 ∧ 80 - (kk + 1) < 80 - kk := by
  have h5 := tellI_ne h c
  refine ⟨⟨by rw [h.1]; exact nI_1 kk, by omega, ?_, by rw [jp_pass6]; exact h.2.2.2⟩, by omega⟩
  rw [← h.2.2.1, h5, show 80 - (kk + 1) = 79 - kk from by omega, tellF.eq_def _ _ _ _ _ _ _ (79 - kk + 1)]
  simp only [if_neg c2, if_neg c3, if_neg c4]
end TELLI
set_option maxRecDepth 20000 in
theorem iX1_tell_1 : ∀ w ∈ wsX10, w ∈ wsX1_tell := by decide +kernel
set_option maxHeartbeats 4000000 in
set_option maxRecDepth 100000 in
theorem kX1_tell (l : Launch) (D : va_G) (cI cJ cZ cD : ClassId) (tA : Nat) (h : Nat) (R : Nat → Nat) (I : Nat → Int32) (L : Nat → Int64) (f0 : Nat → Int32) (f1 : Nat → Int32) (f2 : Nat → Int32) (f3 : Nat → Int64) (f4 : Nat → Int32) (f5 : Nat → Int32) (a0 : Int64) (a1 : Int32) (hs : (I 6).toInt ≤ 80) : jx_M l yX1_tell wsX1_tell ({ frames := 2, cells := 0, slots := 0, locals := 46 }) D (jT cI cJ cZ cD) tA [.ref h, .long a0, .int a1] [(h, .inr (1, (oX1 R I L))), ((R 0), .inl (cI, 80, .inl f0)), ((R 1), .inl (cI, 80, .inl f1)), ((R 2), .inl (cI, 80, .inl f2)), ((R 3), .inl (cJ, 80, .inr (.inl f3))), ((R 4), .inl (cI, 80, .inl f4)), ((R 5), .inl (cI, 80, .inl f5))] (jx_Qi D (jT cI cJ cZ cD) (fun r (_ : Unit) => r = (sX1_tell I L f0 f1 f2 f3 f4 f5 a0 a1).1) (fun _ => [(h, .inr (1, (oX1 R (sX1_tell I L f0 f1 f2 f3 f4 f5 a0 a1).2.1 (sX1_tell I L f0 f1 f2 f3 f4 f5 a0 a1).2.2))), ((R 0), .inl (cI, 80, .inl f0)), ((R 1), .inl (cI, 80, .inl f1)), ((R 2), .inl (cI, 80, .inl f2)), ((R 3), .inl (cJ, 80, .inr (.inl f3))), ((R 4), .inl (cI, 80, .inl f4)), ((R 5), .inl (cI, 80, .inl f5))])) := by
  refine jx_of (cc := cX1_tell) (maxL := 6) (ret := (some .int)) (by decide +kernel) rfl (Nat.le_of_ble_eq_true rfl) ?_
  intro p e s m below meth c A ls hx hb hr hlocks hml hown hts hK hP hD hA hS hX hl
  have hl : lv_has ls 6 [(0, .ref h), (1, .long a0), (3, .int a1)] := hl
  have hown : s.vm.findClass RX1 = some m.cls := hown
  have hk13 := hts (.fieldLink RX1 13 "LoomDesk$Pattern" "kinds" "[I") (by decide +kernel)
  have hk17 := hts (.fieldLink RX1 17 "LoomDesk$Pattern" "values" "[I") (by decide +kernel)
  have hk33 := hts (.fieldLink RX1 33 "LoomDesk$Pattern" "size" "I") (by decide +kernel)
  have hk41 := hts (.fieldLink RX1 41 "LoomDesk$Pattern" "ahead" "J") (by decide +kernel)
  have hk44 := hts (.fieldLink RX1 44 "LoomDesk$Pattern" "carrier" "I") (by decide +kernel)
  have hk47 := hts (.fieldLink RX1 47 "LoomDesk$Pattern" "density" "I") (by decide +kernel)
  refine lv_aload_n hx hb dX1_tell_0 rfl (lv_at hl 0 rfl) ?_
  refine lv_lload_n hx hb dX1_tell_1 rfl (lv_at hl 1 rfl) ?_
  refine jx_pcalli (wc := [(h, .inr (1, (oX1 R I L)))]) hP hD hS hA [0] rfl (by decide) (fun hPc hDc hF => jx_runVs (As := [.long a0]) (rest := []) (n := 1) (ci := 1) (q0 := 0) hx hb hml hown hts hK hX hS hl.1 (kX1_has l D cI cJ cZ cD tA h R I L a0) gX1_tell_X1_has rfl rfl rfl (by decide +kernel) ⟨Nat.le_of_ble_eq_true rfl, Nat.le_of_ble_eq_true rfl⟩ rfl rfl rfl rfl rfl (Nat.le_of_ble_eq_true rfl) dX1_tell_2 ⟨Nat.zero_le _, Nat.zero_le _⟩ hPc hDc hF) (fun r_1 er_1 => ?_)
  have er_1 : r_1 = (sX1_has L a0) := er_1
  refine lv_if_ne (tgt := 10) hx hb dX1_tell_5 (by decide) (fun c_2 => ?_) (fun c_2 => ?_)
  · skip
    refine lv_aload_n hx hb dX1_tell_10 rfl (lv_at hl 0 rfl) ?_
    refine lv_lload_n hx hb dX1_tell_11 rfl (lv_at hl 1 rfl) ?_
    refine jx_put (w2 := [(h, .inr (1, (oX1 R I (vp_updL L 8 a0)))), ((R 0), .inl (cI, 80, .inl f0)), ((R 1), .inl (cI, 80, .inl f1)), ((R 2), .inl (cI, 80, .inl f2)), ((R 3), .inl (cJ, 80, .inr (.inl f3))), ((R 4), .inl (cI, 80, .inl f4)), ((R 5), .inl (cI, 80, .inl f5))]) hx hb hts iX1_tell_1 tyX1 tyX1_ok nmX1 hown hK hP hD hS 0 rfl rfl 8 (by decide) hk41 rfl rfl rfl rfl (Nat.le_of_ble_eq_true rfl) dX1_tell_12 rfl (fun H locs hP hD hS => ?_)
    refine lv_aload_n hx hb dX1_tell_15 rfl (lv_at hl 0 rfl) ?_
    refine lv_iconst (v := 0) hx hb dX1_tell_16 (by decide) ?_
    refine jx_put (w2 := [(h, .inr (1, (oX1 R (upd I 9 (0 : Int32)) (vp_updL L 8 a0)))), ((R 0), .inl (cI, 80, .inl f0)), ((R 1), .inl (cI, 80, .inl f1)), ((R 2), .inl (cI, 80, .inl f2)), ((R 3), .inl (cJ, 80, .inr (.inl f3))), ((R 4), .inl (cI, 80, .inl f4)), ((R 5), .inl (cI, 80, .inl f5))]) hx hb hts iX1_tell_1 tyX1 tyX1_ok nmX1 hown hK hP hD hS 0 rfl rfl 9 (by decide) hk44 rfl rfl rfl rfl (Nat.le_of_ble_eq_true rfl) dX1_tell_17 rfl (fun H locs hP hD hS => ?_)
    refine lv_aload_n hx hb dX1_tell_20 rfl (lv_at hl 0 rfl) ?_
    refine lv_bipush (v := 100) hx hb dX1_tell_21 (by decide) ?_
    refine jx_put (w2 := [(h, .inr (1, (oX1 R (upd (upd I 9 (0 : Int32)) 10 (100 : Int32)) (vp_updL L 8 a0)))), ((R 0), .inl (cI, 80, .inl f0)), ((R 1), .inl (cI, 80, .inl f1)), ((R 2), .inl (cI, 80, .inl f2)), ((R 3), .inl (cJ, 80, .inr (.inl f3))), ((R 4), .inl (cI, 80, .inl f4)), ((R 5), .inl (cI, 80, .inl f5))]) hx hb hts iX1_tell_1 tyX1 tyX1_ok nmX1 hown hK hP hD hS 0 rfl rfl 10 (by decide) hk47 rfl rfl rfl rfl (Nat.le_of_ble_eq_true rfl) dX1_tell_23 rfl (fun H locs hP hD hS => ?_)
    refine lv_iconst (v := 0) hx hb dX1_tell_26 (by decide) ?_
    refine lv_istore (lv' := [(4, .int (0 : Int32)), (0, .ref h), (1, .long a0), (3, .int a1)]) hx hb dX1_tell_27 hl (by decide) rfl (fun ls hl => ?_)
    refine lv_iconst (v := 0) hx hb dX1_tell_29 (by decide) ?_
    refine lv_istore (lv' := [(5, .int (0 : Int32)), (4, .int (0 : Int32)), (0, .ref h), (1, .long a0), (3, .int a1)]) hx hb dX1_tell_30 hl (by decide) rfl (fun ls hl => ?_)
    refine jx_loop (σ := (Int32) × (Int32) × ((Nat → Int32)) × ((Nat → Int64)) × (Nat) × (Unit)) (fun x H locs ls => va_P D vwCl [(h, .inr (1, (oX1 R x.2.2.1 x.2.2.2.1))), ((R 0), .inl (cI, 80, .inl f0)), ((R 1), .inl (cI, 80, .inl f1)), ((R 2), .inl (cI, 80, .inl f2)), ((R 3), .inl (cJ, 80, .inr (.inl f3))), ((R 4), .inl (cI, 80, .inl f4)), ((R 5), .inl (cI, 80, .inl f5))] H ∧ va_D A [(h, .inr (1, (oX1 R x.2.2.1 x.2.2.2.1))), ((R 0), .inl (cI, 80, .inl f0)), ((R 1), .inl (cI, 80, .inl f1)), ((R 2), .inl (cI, 80, .inl f2)), ((R 3), .inl (cJ, 80, .inr (.inl f3))), ((R 4), .inl (cI, 80, .inl f4)), ((R 5), .inl (cI, 80, .inl f5))] ∧ va_S A s.heap H locs ∧ lv_has ls 6 [(0, .ref h), (1, .long a0), (3, .int a1), (4, .int x.1), (5, .int x.2.1)] ∧ (tellI f0 f1 f2 f3 f4 f5 a1 (tellF f0 f1 f2 f3 f4 f5 a1 80 0 (upd (upd I 9 0) 10 100) (vp_updL L 8 a0)) x.2.2.2.2.1 x.2.1 x.1 x.2.2.1 x.2.2.2.1)) (fun x => 80 - x.2.2.2.2.1) ((0 : Int32), (0 : Int32), (upd (upd I 9 (0 : Int32)) 10 (100 : Int32)), (vp_updL L 8 a0), 0, ()) ⟨hP, hD, hS, lv_sub hl [2, 3, 4, 1, 0] rfl, (show tellI f0 f1 f2 f3 f4 f5 a1 (tellF f0 f1 f2 f3 f4 f5 a1 80 0 (upd (upd I 9 0) 10 100) (vp_updL L 8 a0)) 0 (0 : Int32) (0 : Int32) (upd (upd I 9 (0 : Int32)) 10 (100 : Int32)) (vp_updL L 8 a0) from ⟨rfl, by omega, rfl, hs⟩)⟩ ?_
    intro x H locs ls hI ih
    obtain ⟨kt, ii, J, M, kk, ux⟩ := x
    obtain ⟨hP, hD, hS, hl, hp⟩ := hI
    have hP : va_P D vwCl [(h, .inr (1, (oX1 R J M))), ((R 0), .inl (cI, 80, .inl f0)), ((R 1), .inl (cI, 80, .inl f1)), ((R 2), .inl (cI, 80, .inl f2)), ((R 3), .inl (cJ, 80, .inr (.inl f3))), ((R 4), .inl (cI, 80, .inl f4)), ((R 5), .inl (cI, 80, .inl f5))] H := hP
    have hD : va_D A [(h, .inr (1, (oX1 R J M))), ((R 0), .inl (cI, 80, .inl f0)), ((R 1), .inl (cI, 80, .inl f1)), ((R 2), .inl (cI, 80, .inl f2)), ((R 3), .inl (cJ, 80, .inr (.inl f3))), ((R 4), .inl (cI, 80, .inl f4)), ((R 5), .inl (cI, 80, .inl f5))] := hD
    have hl : lv_has ls 6 [(0, .ref h), (1, .long a0), (3, .int a1), (4, .int kt), (5, .int ii)] := hl
    have hp : tellI f0 f1 f2 f3 f4 f5 a1 (tellF f0 f1 f2 f3 f4 f5 a1 80 0 (upd (upd I 9 0) 10 100) (vp_updL L 8 a0)) kk ii kt J M := hp
    refine lv_iload hx hb dX1_tell_32 (lv_at hl 4 rfl) ?_
    refine lv_bipush (v := 80) hx hb dX1_tell_34 (by decide) ?_
    refine lv_icmp_ge (tgt := 99) hx hb dX1_tell_36 (by decide) (fun c_3 => ?_) (fun c_3 => ?_)
    · skip
      refine lv_iconst (v := -1) hx hb dX1_tell_99 (by decide) ?_
      have hq : (sX1_tell I L f0 f1 f2 f3 f4 f5 a0 a1) = ((-1 : Int32), J, M) := (by rw [sX1_tell, ← er_1, if_neg c_2]; exact tellI_out hp c_3)
      exact jx_iret () hx hb hr hlocks hK hP hD hS (by rw [hq]) (by rw [hq]) dX1_tell_100
    · skip
      refine lv_iload hx hb dX1_tell_39 (lv_at hl 3 rfl) ?_
      refine lv_if_lt (tgt := 99) hx hb dX1_tell_41 (by decide) (fun c_4 => ?_) (fun c_4 => ?_)
      · skip
        refine lv_iconst (v := -1) hx hb dX1_tell_99 (by decide) ?_
        have hq : (sX1_tell I L f0 f1 f2 f3 f4 f5 a0 a1) = ((-1 : Int32), J, M) := (by rw [sX1_tell, ← er_1, if_neg c_2]; exact tellI_neg hp c_3 c_4)
        exact jx_iret () hx hb hr hlocks hK hP hD hS (by rw [hq]) (by rw [hq]) dX1_tell_100
      · skip
        refine lv_iload hx hb dX1_tell_44 (lv_at hl 3 rfl) ?_
        refine lv_aload_n hx hb dX1_tell_46 rfl (lv_at hl 0 rfl) ?_
        refine jx_get (v := .int (J 6)) hx hb hts iX1_tell_1 hown hK hP 0 rfl rfl 6 (by decide) hk33 rfl rfl dX1_tell_47 ?_
        refine lv_icmp_ge (tgt := 99) hx hb dX1_tell_50 (by decide) (fun c_5 => ?_) (fun c_5 => ?_)
        · skip
          refine lv_iconst (v := -1) hx hb dX1_tell_99 (by decide) ?_
          have hq : (sX1_tell I L f0 f1 f2 f3 f4 f5 a0 a1) = ((-1 : Int32), J, M) := (by rw [sX1_tell, ← er_1, if_neg c_2]; exact tellI_end hp c_3 c_4 c_5)
          exact jx_iret () hx hb hr hlocks hK hP hD hS (by rw [hq]) (by rw [hq]) dX1_tell_100
        · skip
          refine lv_aload_n hx hb dX1_tell_53 rfl (lv_at hl 0 rfl) ?_
          refine jx_get (v := .ref (R 0)) hx hb hts iX1_tell_1 hown hK hP 0 rfl rfl 0 (by decide) hk13 rfl rfl dX1_tell_54 ?_
          refine lv_iload hx hb dX1_tell_57 (lv_at hl 3 rfl) ?_
          refine va_iald hx hb hK hP 1 0 rfl rfl (jx_inlt c_4 c_5 hp.2.2.2) dX1_tell_59 ?_
          refine lv_if_ne (tgt := 85) hx hb dX1_tell_60 (by decide) (fun c_6 => ?_) (fun c_6 => ?_)
          · skip
            refine lv_aload_n hx hb dX1_tell_85 rfl (lv_at hl 0 rfl) ?_
            refine lv_iload hx hb dX1_tell_86 (lv_at hl 3 rfl) ?_
            refine jx_calli (wc := [(h, .inr (1, (oX1 R J M))), ((R 0), .inl (cI, 80, .inl f0)), ((R 1), .inl (cI, 80, .inl f1)), ((R 2), .inl (cI, 80, .inl f2)), ((R 3), .inl (cJ, 80, .inr (.inl f3))), ((R 4), .inl (cI, 80, .inl f4)), ((R 5), .inl (cI, 80, .inl f5))]) (wr := []) hP hD hS hA hK [0, 1, 2, 3, 4, 5, 6] [] rfl rfl (by decide) (by decide) (by decide) (fun hPc hDc hF => jx_runV (As := [.int kt]) (rest := []) (n := 1) (ci := 1) (q0 := 0) hx hb hml hown hts hK hX hS hl.1 (kX1_pass l D cI cJ cZ cD tA h R J M f0 f1 f2 f3 f4 f5 kt (jx_inlt c_4 c_5 hp.2.2.2)) gX1_tell_X1_pass rfl rfl rfl (by decide +kernel) ⟨Nat.le_of_ble_eq_true rfl, Nat.le_of_ble_eq_true rfl⟩ rfl rfl rfl rfl rfl (Nat.le_of_ble_eq_true rfl) dX1_tell_88 ⟨Nat.zero_le _, Nat.zero_le _⟩ hPc hDc hF) (fun r_7 u H locs er_7 hP hD hS => ?_)
            have er_7 : r_7 = (sX1_pass J M f0 f1 f2 f3 f4 f5 kt).1 := er_7
            obtain ⟨I_8, eI_8⟩ : ∃ x : (Nat → Int32), x = (sX1_pass J M f0 f1 f2 f3 f4 f5 kt).2.1 := ⟨_, rfl⟩
            obtain ⟨L_9, eL_9⟩ : ∃ x : (Nat → Int64), x = (sX1_pass J M f0 f1 f2 f3 f4 f5 kt).2.2 := ⟨_, rfl⟩
            have hP : va_P D vwCl [(h, .inr (1, (oX1 R I_8 L_9))), ((R 0), .inl (cI, 80, .inl f0)), ((R 1), .inl (cI, 80, .inl f1)), ((R 2), .inl (cI, 80, .inl f2)), ((R 3), .inl (cJ, 80, .inr (.inl f3))), ((R 4), .inl (cI, 80, .inl f4)), ((R 5), .inl (cI, 80, .inl f5))] H := by rw [eI_8, eL_9]; exact hP
            have hD : va_D A [(h, .inr (1, (oX1 R I_8 L_9))), ((R 0), .inl (cI, 80, .inl f0)), ((R 1), .inl (cI, 80, .inl f1)), ((R 2), .inl (cI, 80, .inl f2)), ((R 3), .inl (cJ, 80, .inr (.inl f3))), ((R 4), .inl (cI, 80, .inl f4)), ((R 5), .inl (cI, 80, .inl f5))] := by rw [eI_8, eL_9]; exact hD
            refine lv_istore (lv' := [(4, .int r_7), (0, .ref h), (1, .long a0), (3, .int a1), (5, .int ii)]) hx hb dX1_tell_91 hl (by decide) rfl (fun ls hl => ?_)
            obtain ⟨v_10, ev_10⟩ : ∃ y : Int32, y = ii + (1 : Int32) := ⟨_, rfl⟩
            refine lv_iinc (v := v_10) (lv' := [(5, .int v_10), (4, .int r_7), (0, .ref h), (1, .long a0), (3, .int a1)]) hx hb dX1_tell_93 hl (k := 4) rfl (by rw [ev_10]; rfl) (by decide) rfl (fun ls hl => ?_)
            refine lv_goto (tgt := 32) hx hb dX1_tell_96 (by decide) ?_
            exact ih (r_7, v_10, I_8, L_9, kk + 1, ()) _ _ _ ⟨hP, hD, hS, lv_sub hl [2, 3, 4, 1, 0] rfl, (show tellI f0 f1 f2 f3 f4 f5 a1 (tellF f0 f1 f2 f3 f4 f5 a1 80 0 (upd (upd I 9 0) 10 100) (vp_updL L 8 a0)) (kk + 1) v_10 r_7 I_8 L_9 from (by clear hP hD hl; subst ev_10; subst eL_9; subst eI_8; subst er_7; subst er_1; exact (tellI_step hp c_3 c_4 c_5 (fun z => c_6 z.1)).1))⟩ (show 80 - (kk + 1) < 80 - kk from (by clear hP hD hl; subst ev_10; subst eL_9; subst eI_8; subst er_7; subst er_1; exact (tellI_step hp c_3 c_4 c_5 (fun z => c_6 z.1)).2))
          · skip
            refine lv_aload_n hx hb dX1_tell_63 rfl (lv_at hl 0 rfl) ?_
            refine jx_get (v := .long (M 8)) hx hb hts iX1_tell_1 hown hK hP 0 rfl rfl 8 (by decide) hk41 rfl rfl dX1_tell_64 ?_
            refine lv_lconst (v := 0) hx hb dX1_tell_67 (by decide) ?_
            refine jx_l_ne (tgt := 85) hx hb dX1_tell_68 dX1_tell_69 (by decide) (fun c_11 => ?_) (fun c_11 => ?_)
            · skip
              refine lv_aload_n hx hb dX1_tell_85 rfl (lv_at hl 0 rfl) ?_
              refine lv_iload hx hb dX1_tell_86 (lv_at hl 3 rfl) ?_
              refine jx_calli (wc := [(h, .inr (1, (oX1 R J M))), ((R 0), .inl (cI, 80, .inl f0)), ((R 1), .inl (cI, 80, .inl f1)), ((R 2), .inl (cI, 80, .inl f2)), ((R 3), .inl (cJ, 80, .inr (.inl f3))), ((R 4), .inl (cI, 80, .inl f4)), ((R 5), .inl (cI, 80, .inl f5))]) (wr := []) hP hD hS hA hK [0, 1, 2, 3, 4, 5, 6] [] rfl rfl (by decide) (by decide) (by decide) (fun hPc hDc hF => jx_runV (As := [.int kt]) (rest := []) (n := 1) (ci := 1) (q0 := 0) hx hb hml hown hts hK hX hS hl.1 (kX1_pass l D cI cJ cZ cD tA h R J M f0 f1 f2 f3 f4 f5 kt (jx_inlt c_4 c_5 hp.2.2.2)) gX1_tell_X1_pass rfl rfl rfl (by decide +kernel) ⟨Nat.le_of_ble_eq_true rfl, Nat.le_of_ble_eq_true rfl⟩ rfl rfl rfl rfl rfl (Nat.le_of_ble_eq_true rfl) dX1_tell_88 ⟨Nat.zero_le _, Nat.zero_le _⟩ hPc hDc hF) (fun r_12 u H locs er_12 hP hD hS => ?_)
              have er_12 : r_12 = (sX1_pass J M f0 f1 f2 f3 f4 f5 kt).1 := er_12
              obtain ⟨I_13, eI_13⟩ : ∃ x : (Nat → Int32), x = (sX1_pass J M f0 f1 f2 f3 f4 f5 kt).2.1 := ⟨_, rfl⟩
              obtain ⟨L_14, eL_14⟩ : ∃ x : (Nat → Int64), x = (sX1_pass J M f0 f1 f2 f3 f4 f5 kt).2.2 := ⟨_, rfl⟩
              have hP : va_P D vwCl [(h, .inr (1, (oX1 R I_13 L_14))), ((R 0), .inl (cI, 80, .inl f0)), ((R 1), .inl (cI, 80, .inl f1)), ((R 2), .inl (cI, 80, .inl f2)), ((R 3), .inl (cJ, 80, .inr (.inl f3))), ((R 4), .inl (cI, 80, .inl f4)), ((R 5), .inl (cI, 80, .inl f5))] H := by rw [eI_13, eL_14]; exact hP
              have hD : va_D A [(h, .inr (1, (oX1 R I_13 L_14))), ((R 0), .inl (cI, 80, .inl f0)), ((R 1), .inl (cI, 80, .inl f1)), ((R 2), .inl (cI, 80, .inl f2)), ((R 3), .inl (cJ, 80, .inr (.inl f3))), ((R 4), .inl (cI, 80, .inl f4)), ((R 5), .inl (cI, 80, .inl f5))] := by rw [eI_13, eL_14]; exact hD
              refine lv_istore (lv' := [(4, .int r_12), (0, .ref h), (1, .long a0), (3, .int a1), (5, .int ii)]) hx hb dX1_tell_91 hl (by decide) rfl (fun ls hl => ?_)
              obtain ⟨v_15, ev_15⟩ : ∃ y : Int32, y = ii + (1 : Int32) := ⟨_, rfl⟩
              refine lv_iinc (v := v_15) (lv' := [(5, .int v_15), (4, .int r_12), (0, .ref h), (1, .long a0), (3, .int a1)]) hx hb dX1_tell_93 hl (k := 4) rfl (by rw [ev_15]; rfl) (by decide) rfl (fun ls hl => ?_)
              refine lv_goto (tgt := 32) hx hb dX1_tell_96 (by decide) ?_
              exact ih (r_12, v_15, I_13, L_14, kk + 1, ()) _ _ _ ⟨hP, hD, hS, lv_sub hl [2, 3, 4, 1, 0] rfl, (show tellI f0 f1 f2 f3 f4 f5 a1 (tellF f0 f1 f2 f3 f4 f5 a1 80 0 (upd (upd I 9 0) 10 100) (vp_updL L 8 a0)) (kk + 1) v_15 r_12 I_13 L_14 from (by clear hP hD hl; subst ev_15; subst eL_14; subst eI_13; subst er_12; subst er_1; exact (tellI_step hp c_3 c_4 c_5 (fun z => c_11 z.2)).1))⟩ (show 80 - (kk + 1) < 80 - kk from (by clear hP hD hl; subst ev_15; subst eL_14; subst eI_13; subst er_12; subst er_1; exact (tellI_step hp c_3 c_4 c_5 (fun z => c_11 z.2)).2))
            · skip
              refine lv_aload_n hx hb dX1_tell_72 rfl (lv_at hl 0 rfl) ?_
              refine lv_aload_n hx hb dX1_tell_73 rfl (lv_at hl 0 rfl) ?_
              refine jx_get (v := .ref (R 1)) hx hb hts iX1_tell_1 hown hK hP 0 rfl rfl 1 (by decide) hk17 rfl rfl dX1_tell_74 ?_
              refine lv_iload hx hb dX1_tell_77 (lv_at hl 3 rfl) ?_
              refine va_iald hx hb hK hP 2 0 rfl rfl (jx_inlt c_4 c_5 hp.2.2.2) dX1_tell_79 ?_
              refine lv_iload_n hx hb dX1_tell_80 rfl (lv_at hl 2 rfl) ?_
              refine jx_pcalli (wc := [(h, .inr (1, (oX1 R J M)))]) hP hD hS hA [0] rfl (by decide) (fun hPc hDc hF => jx_runVs (As := [.int (f1 kt.toNatClampNeg), .int a1]) (rest := []) (n := 2) (ci := 1) (q0 := 0) hx hb hml hown hts hK hX hS hl.1 (kX1_tellHere l D cI cJ cZ cD tA h R J M (f1 kt.toNatClampNeg) a1) gX1_tell_X1_tellHere rfl rfl rfl (by decide +kernel) ⟨Nat.le_of_ble_eq_true rfl, Nat.le_of_ble_eq_true rfl⟩ rfl rfl rfl rfl rfl (Nat.le_of_ble_eq_true rfl) dX1_tell_81 ⟨Nat.zero_le _, Nat.zero_le _⟩ hPc hDc hF) (fun r_16 er_16 => ?_)
              have er_16 : r_16 = (sX1_tellHere J (f1 kt.toNatClampNeg) a1) := er_16
              have hq : (sX1_tell I L f0 f1 f2 f3 f4 f5 a0 a1) = (r_16, J, M) := (by rw [sX1_tell, ← er_1, if_neg c_2]; rw [er_16]; exact tellI_here hp c_3 c_4 c_5 c_6 c_11)
              exact jx_iret () hx hb hr hlocks hK hP hD hS (by rw [hq]) (by rw [hq]) dX1_tell_84
  · skip
    refine lv_iconst (v := -1) hx hb dX1_tell_8 (by decide) ?_
    have hq : (sX1_tell I L f0 f1 f2 f3 f4 f5 a0 a1) = ((-1 : Int32), I, L) := (by rw [sX1_tell, ← er_1, if_pos c_2])
    exact jx_iret () hx hb hr hlocks hK hP hD hS (by rw [hq]) (by rw [hq]) dX1_tell_9
end
