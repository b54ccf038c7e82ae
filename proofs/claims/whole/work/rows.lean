section
-- ===== PART A: goes FIRST, ahead of the names: the tables' words, and 'selects' of the private methods out of them =====
/-- a private method of a class that the tables say can be made, by its rows of tables_1 -/
def lw_okq (q : MethodName × Nat) : Prop := (q.1.cls ≠ "java/lang/invoke/MethodHandle" ∧ q.1.cls ≠ "java/lang/invoke/VarHandle") ∧ Cond.instantiable q.1.cls q.2 ∈ tables_1 ∧ Cond.privateMethod q.1 ∈ tables_1 ∧ Cond.instanceMethod q.1 ∈ tables_1
theorem lw_p0 : lw_okq (⟨"SeatScene", "refuse", "(I)I"⟩, 14) := ⟨⟨by decide +kernel, by decide +kernel⟩, List.mem_of_getElem? (i := 16) (by decide +kernel), List.mem_of_getElem? (i := 280) (by decide +kernel), List.mem_of_getElem? (i := 281) (by decide +kernel)⟩
theorem lw_p1 : lw_okq (⟨"SeatScene$Text", "step", "()V"⟩, 8) := ⟨⟨by decide +kernel, by decide +kernel⟩, List.mem_of_getElem? (i := 146) (by decide +kernel), List.mem_of_getElem? (i := 316) (by decide +kernel), List.mem_of_getElem? (i := 317) (by decide +kernel)⟩
theorem lw_p2 : lw_okq (⟨"SeatScene$Text", "isLetter", "(I)Z"⟩, 8) := ⟨⟨by decide +kernel, by decide +kernel⟩, List.mem_of_getElem? (i := 146) (by decide +kernel), List.mem_of_getElem? (i := 320) (by decide +kernel), List.mem_of_getElem? (i := 321) (by decide +kernel)⟩
theorem lw_p3 : lw_okq (⟨"SeatScene$Text", "stepWord", "()V"⟩, 8) := ⟨⟨by decide +kernel, by decide +kernel⟩, List.mem_of_getElem? (i := 146) (by decide +kernel), List.mem_of_getElem? (i := 324) (by decide +kernel), List.mem_of_getElem? (i := 325) (by decide +kernel)⟩
theorem lw_p4 : lw_okq (⟨"SeatScene$Text", "isFigure", "(I)Z"⟩, 8) := ⟨⟨by decide +kernel, by decide +kernel⟩, List.mem_of_getElem? (i := 146) (by decide +kernel), List.mem_of_getElem? (i := 328) (by decide +kernel), List.mem_of_getElem? (i := 329) (by decide +kernel)⟩
theorem lw_p5 : lw_okq (⟨"SeatScene$Text", "stepNumber", "()V"⟩, 8) := ⟨⟨by decide +kernel, by decide +kernel⟩, List.mem_of_getElem? (i := 146) (by decide +kernel), List.mem_of_getElem? (i := 332) (by decide +kernel), List.mem_of_getElem? (i := 333) (by decide +kernel)⟩
theorem lw_p6 : lw_okq (⟨"SeatScene$Text", "takeItem", "(LSeatScene$Chapter;Z)Z"⟩, 8) := ⟨⟨by decide +kernel, by decide +kernel⟩, List.mem_of_getElem? (i := 146) (by decide +kernel), List.mem_of_getElem? (i := 336) (by decide +kernel), List.mem_of_getElem? (i := 337) (by decide +kernel)⟩
theorem lw_p7 : lw_okq (⟨"SeatScene$Text", "wordNumber", "()I"⟩, 8) := ⟨⟨by decide +kernel, by decide +kernel⟩, List.mem_of_getElem? (i := 146) (by decide +kernel), List.mem_of_getElem? (i := 340) (by decide +kernel), List.mem_of_getElem? (i := 341) (by decide +kernel)⟩
theorem lw_p8 : lw_okq (⟨"SeatScene$Text", "isWord", "(Ljava/lang/String;)Z"⟩, 8) := ⟨⟨by decide +kernel, by decide +kernel⟩, List.mem_of_getElem? (i := 146) (by decide +kernel), List.mem_of_getElem? (i := 345) (by decide +kernel), List.mem_of_getElem? (i := 346) (by decide +kernel)⟩
theorem lw_p9 : lw_okq (⟨"SeatScene$Text", "takeStop", "()Z"⟩, 8) := ⟨⟨by decide +kernel, by decide +kernel⟩, List.mem_of_getElem? (i := 146) (by decide +kernel), List.mem_of_getElem? (i := 401) (by decide +kernel), List.mem_of_getElem? (i := 402) (by decide +kernel)⟩
theorem lw_p10 : lw_okq (⟨"SeatScene$Text", "takeNumber", "(III)Z"⟩, 8) := ⟨⟨by decide +kernel, by decide +kernel⟩, List.mem_of_getElem? (i := 146) (by decide +kernel), List.mem_of_getElem? (i := 405) (by decide +kernel), List.mem_of_getElem? (i := 406) (by decide +kernel)⟩
theorem lw_p11 : lw_okq (⟨"SeatScene", "isCanon", "(I)Z"⟩, 14) := ⟨⟨by decide +kernel, by decide +kernel⟩, List.mem_of_getElem? (i := 16) (by decide +kernel), List.mem_of_getElem? (i := 477) (by decide +kernel), List.mem_of_getElem? (i := 478) (by decide +kernel)⟩
theorem lw_p12 : lw_okq (⟨"SeatScene", "isSeatOrNone", "(I)Z"⟩, 14) := ⟨⟨by decide +kernel, by decide +kernel⟩, List.mem_of_getElem? (i := 16) (by decide +kernel), List.mem_of_getElem? (i := 481) (by decide +kernel), List.mem_of_getElem? (i := 482) (by decide +kernel)⟩
theorem lw_p13 : lw_okq (⟨"SeatScene", "isSeat", "(I)Z"⟩, 14) := ⟨⟨by decide +kernel, by decide +kernel⟩, List.mem_of_getElem? (i := 16) (by decide +kernel), List.mem_of_getElem? (i := 485) (by decide +kernel), List.mem_of_getElem? (i := 486) (by decide +kernel)⟩
theorem lw_p14 : lw_okq (⟨"SeatScene", "refuseAs", "(I)I"⟩, 14) := ⟨⟨by decide +kernel, by decide +kernel⟩, List.mem_of_getElem? (i := 16) (by decide +kernel), List.mem_of_getElem? (i := 489) (by decide +kernel), List.mem_of_getElem? (i := 490) (by decide +kernel)⟩
theorem lw_p15 : lw_okq (⟨"SeatScene", "lookAhead", "(I)V"⟩, 14) := ⟨⟨by decide +kernel, by decide +kernel⟩, List.mem_of_getElem? (i := 16) (by decide +kernel), List.mem_of_getElem? (i := 555) (by decide +kernel), List.mem_of_getElem? (i := 556) (by decide +kernel)⟩
def lw_privs_1 : List (MethodName × Nat) := [(⟨"SeatScene", "refuse", "(I)I"⟩, 14), (⟨"SeatScene$Text", "step", "()V"⟩, 8), (⟨"SeatScene$Text", "isLetter", "(I)Z"⟩, 8), (⟨"SeatScene$Text", "stepWord", "()V"⟩, 8), (⟨"SeatScene$Text", "isFigure", "(I)Z"⟩, 8), (⟨"SeatScene$Text", "stepNumber", "()V"⟩, 8), (⟨"SeatScene$Text", "takeItem", "(LSeatScene$Chapter;Z)Z"⟩, 8), (⟨"SeatScene$Text", "wordNumber", "()I"⟩, 8), (⟨"SeatScene$Text", "isWord", "(Ljava/lang/String;)Z"⟩, 8), (⟨"SeatScene$Text", "takeStop", "()Z"⟩, 8), (⟨"SeatScene$Text", "takeNumber", "(III)Z"⟩, 8), (⟨"SeatScene", "isCanon", "(I)Z"⟩, 14), (⟨"SeatScene", "isSeatOrNone", "(I)Z"⟩, 14), (⟨"SeatScene", "isSeat", "(I)Z"⟩, 14), (⟨"SeatScene", "refuseAs", "(I)I"⟩, 14), (⟨"SeatScene", "lookAhead", "(I)V"⟩, 14)]
theorem lw_r1 : ∀ q ∈ lw_privs_1, lw_okq q := List.forall_mem_cons.mpr ⟨lw_p0, List.forall_mem_cons.mpr ⟨lw_p1, List.forall_mem_cons.mpr ⟨lw_p2, List.forall_mem_cons.mpr ⟨lw_p3, List.forall_mem_cons.mpr ⟨lw_p4, List.forall_mem_cons.mpr ⟨lw_p5, List.forall_mem_cons.mpr ⟨lw_p6, List.forall_mem_cons.mpr ⟨lw_p7, List.forall_mem_cons.mpr ⟨lw_p8, List.forall_mem_cons.mpr ⟨lw_p9, List.forall_mem_cons.mpr ⟨lw_p10, List.forall_mem_cons.mpr ⟨lw_p11, List.forall_mem_cons.mpr ⟨lw_p12, List.forall_mem_cons.mpr ⟨lw_p13, List.forall_mem_cons.mpr ⟨lw_p14, List.forall_mem_cons.mpr ⟨lw_p15, fun _ h => absurd h List.not_mem_nil⟩⟩⟩⟩⟩⟩⟩⟩⟩⟩⟩⟩⟩⟩⟩⟩
theorem lw_p16 : lw_okq (⟨"SeatScene", "yearsUntil", "(IIII)I"⟩, 14) := ⟨⟨by decide +kernel, by decide +kernel⟩, List.mem_of_getElem? (i := 16) (by decide +kernel), List.mem_of_getElem? (i := 569) (by decide +kernel), List.mem_of_getElem? (i := 570) (by decide +kernel)⟩
theorem lw_p17 : lw_okq (⟨"SeatScene", "write", "(LSeatScene$Rows;IIIII)I"⟩, 14) := ⟨⟨by decide +kernel, by decide +kernel⟩, List.mem_of_getElem? (i := 16) (by decide +kernel), List.mem_of_getElem? (i := 595) (by decide +kernel), List.mem_of_getElem? (i := 596) (by decide +kernel)⟩
theorem lw_p18 : lw_okq (⟨"SeatScene", "seatKinds", "(I)I"⟩, 14) := ⟨⟨by decide +kernel, by decide +kernel⟩, List.mem_of_getElem? (i := 16) (by decide +kernel), List.mem_of_getElem? (i := 662) (by decide +kernel), List.mem_of_getElem? (i := 663) (by decide +kernel)⟩
theorem lw_p19 : lw_okq (⟨"SeatScene", "mostAlike", "(I)I"⟩, 14) := ⟨⟨by decide +kernel, by decide +kernel⟩, List.mem_of_getElem? (i := 16) (by decide +kernel), List.mem_of_getElem? (i := 671) (by decide +kernel), List.mem_of_getElem? (i := 672) (by decide +kernel)⟩
theorem lw_p20 : lw_okq (⟨"SeatScene", "canonKinds", "(I)I"⟩, 14) := ⟨⟨by decide +kernel, by decide +kernel⟩, List.mem_of_getElem? (i := 16) (by decide +kernel), List.mem_of_getElem? (i := 679) (by decide +kernel), List.mem_of_getElem? (i := 680) (by decide +kernel)⟩
theorem lw_p21 : lw_okq (⟨"SeatScene", "isContent", "([III)Z"⟩, 14) := ⟨⟨by decide +kernel, by decide +kernel⟩, List.mem_of_getElem? (i := 16) (by decide +kernel), List.mem_of_getElem? (i := 692) (by decide +kernel), List.mem_of_getElem? (i := 693) (by decide +kernel)⟩
theorem lw_p22 : lw_okq (⟨"SeatScene", "setFraction", "(JJ)V"⟩, 14) := ⟨⟨by decide +kernel, by decide +kernel⟩, List.mem_of_getElem? (i := 16) (by decide +kernel), List.mem_of_getElem? (i := 707) (by decide +kernel), List.mem_of_getElem? (i := 708) (by decide +kernel)⟩
theorem lw_p23 : lw_okq (⟨"SeatScene", "howMany", "(I)I"⟩, 14) := ⟨⟨by decide +kernel, by decide +kernel⟩, List.mem_of_getElem? (i := 16) (by decide +kernel), List.mem_of_getElem? (i := 742) (by decide +kernel), List.mem_of_getElem? (i := 743) (by decide +kernel)⟩
theorem lw_p24 : lw_okq (⟨"SeatSceneModel", "bad", "()I"⟩, 24) := ⟨⟨by decide +kernel, by decide +kernel⟩, List.mem_of_getElem? (i := 770) (by decide +kernel), List.mem_of_getElem? (i := 869) (by decide +kernel), List.mem_of_getElem? (i := 870) (by decide +kernel)⟩
theorem lw_p25 : lw_okq (⟨"SeatSceneModel", "refused", "(II)I"⟩, 24) := ⟨⟨by decide +kernel, by decide +kernel⟩, List.mem_of_getElem? (i := 770) (by decide +kernel), List.mem_of_getElem? (i := 873) (by decide +kernel), List.mem_of_getElem? (i := 874) (by decide +kernel)⟩
theorem lw_p26 : lw_okq (⟨"SeatSceneModel", "step", "()V"⟩, 24) := ⟨⟨by decide +kernel, by decide +kernel⟩, List.mem_of_getElem? (i := 770) (by decide +kernel), List.mem_of_getElem? (i := 895) (by decide +kernel), List.mem_of_getElem? (i := 896) (by decide +kernel)⟩
theorem lw_p27 : lw_okq (⟨"SeatSceneModel", "isLetter", "()Z"⟩, 24) := ⟨⟨by decide +kernel, by decide +kernel⟩, List.mem_of_getElem? (i := 770) (by decide +kernel), List.mem_of_getElem? (i := 899) (by decide +kernel), List.mem_of_getElem? (i := 900) (by decide +kernel)⟩
theorem lw_p28 : lw_okq (⟨"SeatSceneModel", "readsLetters", "()V"⟩, 24) := ⟨⟨by decide +kernel, by decide +kernel⟩, List.mem_of_getElem? (i := 770) (by decide +kernel), List.mem_of_getElem? (i := 905) (by decide +kernel), List.mem_of_getElem? (i := 906) (by decide +kernel)⟩
theorem lw_p29 : lw_okq (⟨"SeatSceneModel", "isFigure", "()Z"⟩, 24) := ⟨⟨by decide +kernel, by decide +kernel⟩, List.mem_of_getElem? (i := 770) (by decide +kernel), List.mem_of_getElem? (i := 909) (by decide +kernel), List.mem_of_getElem? (i := 910) (by decide +kernel)⟩
theorem lw_p30 : lw_okq (⟨"SeatSceneModel", "readsItem", "(I)Z"⟩, 24) := ⟨⟨by decide +kernel, by decide +kernel⟩, List.mem_of_getElem? (i := 770) (by decide +kernel), List.mem_of_getElem? (i := 915) (by decide +kernel), List.mem_of_getElem? (i := 916) (by decide +kernel)⟩
theorem lw_p31 : lw_okq (⟨"SeatSceneModel", "isWord", "(II)Z"⟩, 24) := ⟨⟨by decide +kernel, by decide +kernel⟩, List.mem_of_getElem? (i := 770) (by decide +kernel), List.mem_of_getElem? (i := 920) (by decide +kernel), List.mem_of_getElem? (i := 921) (by decide +kernel)⟩
def lw_privs_2 : List (MethodName × Nat) := [(⟨"SeatScene", "yearsUntil", "(IIII)I"⟩, 14), (⟨"SeatScene", "write", "(LSeatScene$Rows;IIIII)I"⟩, 14), (⟨"SeatScene", "seatKinds", "(I)I"⟩, 14), (⟨"SeatScene", "mostAlike", "(I)I"⟩, 14), (⟨"SeatScene", "canonKinds", "(I)I"⟩, 14), (⟨"SeatScene", "isContent", "([III)Z"⟩, 14), (⟨"SeatScene", "setFraction", "(JJ)V"⟩, 14), (⟨"SeatScene", "howMany", "(I)I"⟩, 14), (⟨"SeatSceneModel", "bad", "()I"⟩, 24), (⟨"SeatSceneModel", "refused", "(II)I"⟩, 24), (⟨"SeatSceneModel", "step", "()V"⟩, 24), (⟨"SeatSceneModel", "isLetter", "()Z"⟩, 24), (⟨"SeatSceneModel", "readsLetters", "()V"⟩, 24), (⟨"SeatSceneModel", "isFigure", "()Z"⟩, 24), (⟨"SeatSceneModel", "readsItem", "(I)Z"⟩, 24), (⟨"SeatSceneModel", "isWord", "(II)Z"⟩, 24)]
theorem lw_r2 : ∀ q ∈ lw_privs_2, lw_okq q := List.forall_mem_cons.mpr ⟨lw_p16, List.forall_mem_cons.mpr ⟨lw_p17, List.forall_mem_cons.mpr ⟨lw_p18, List.forall_mem_cons.mpr ⟨lw_p19, List.forall_mem_cons.mpr ⟨lw_p20, List.forall_mem_cons.mpr ⟨lw_p21, List.forall_mem_cons.mpr ⟨lw_p22, List.forall_mem_cons.mpr ⟨lw_p23, List.forall_mem_cons.mpr ⟨lw_p24, List.forall_mem_cons.mpr ⟨lw_p25, List.forall_mem_cons.mpr ⟨lw_p26, List.forall_mem_cons.mpr ⟨lw_p27, List.forall_mem_cons.mpr ⟨lw_p28, List.forall_mem_cons.mpr ⟨lw_p29, List.forall_mem_cons.mpr ⟨lw_p30, List.forall_mem_cons.mpr ⟨lw_p31, fun _ h => absurd h List.not_mem_nil⟩⟩⟩⟩⟩⟩⟩⟩⟩⟩⟩⟩⟩⟩⟩⟩
theorem lw_p32 : lw_okq (⟨"SeatSceneModel", "readsSeat", "()Z"⟩, 24) := ⟨⟨by decide +kernel, by decide +kernel⟩, List.mem_of_getElem? (i := 770) (by decide +kernel), List.mem_of_getElem? (i := 925) (by decide +kernel), List.mem_of_getElem? (i := 926) (by decide +kernel)⟩
theorem lw_p33 : lw_okq (⟨"SeatSceneModel", "number", "(II)Z"⟩, 24) := ⟨⟨by decide +kernel, by decide +kernel⟩, List.mem_of_getElem? (i := 770) (by decide +kernel), List.mem_of_getElem? (i := 929) (by decide +kernel), List.mem_of_getElem? (i := 930) (by decide +kernel)⟩
theorem lw_p34 : lw_okq (⟨"SeatSceneModel", "readsCanon", "()Z"⟩, 24) := ⟨⟨by decide +kernel, by decide +kernel⟩, List.mem_of_getElem? (i := 770) (by decide +kernel), List.mem_of_getElem? (i := 934) (by decide +kernel), List.mem_of_getElem? (i := 935) (by decide +kernel)⟩
theorem lw_p35 : lw_okq (⟨"SeatSceneModel", "readsSitting", "()Z"⟩, 24) := ⟨⟨by decide +kernel, by decide +kernel⟩, List.mem_of_getElem? (i := 770) (by decide +kernel), List.mem_of_getElem? (i := 939) (by decide +kernel), List.mem_of_getElem? (i := 940) (by decide +kernel)⟩
theorem lw_p36 : lw_okq (⟨"SeatSceneModel", "readsYears", "()Z"⟩, 24) := ⟨⟨by decide +kernel, by decide +kernel⟩, List.mem_of_getElem? (i := 770) (by decide +kernel), List.mem_of_getElem? (i := 947) (by decide +kernel), List.mem_of_getElem? (i := 948) (by decide +kernel)⟩
theorem lw_p37 : lw_okq (⟨"SeatSceneModel", "swapsRows", "()V"⟩, 24) := ⟨⟨by decide +kernel, by decide +kernel⟩, List.mem_of_getElem? (i := 770) (by decide +kernel), List.mem_of_getElem? (i := 951) (by decide +kernel), List.mem_of_getElem? (i := 952) (by decide +kernel)⟩
theorem lw_p38 : lw_okq (⟨"SeatSceneModel", "yearGoes", "([I)V"⟩, 24) := ⟨⟨by decide +kernel, by decide +kernel⟩, List.mem_of_getElem? (i := 770) (by decide +kernel), List.mem_of_getElem? (i := 955) (by decide +kernel), List.mem_of_getElem? (i := 956) (by decide +kernel)⟩
theorem lw_p39 : lw_okq (⟨"SeatSceneModel", "oneTakes", "([II)V"⟩, 24) := ⟨⟨by decide +kernel, by decide +kernel⟩, List.mem_of_getElem? (i := 770) (by decide +kernel), List.mem_of_getElem? (i := 959) (by decide +kernel), List.mem_of_getElem? (i := 960) (by decide +kernel)⟩
theorem lw_p40 : lw_okq (⟨"SeatSceneModel", "takesOn", "([III)I"⟩, 24) := ⟨⟨by decide +kernel, by decide +kernel⟩, List.mem_of_getElem? (i := 770) (by decide +kernel), List.mem_of_getElem? (i := 963) (by decide +kernel), List.mem_of_getElem? (i := 964) (by decide +kernel)⟩
theorem lw_p41 : lw_okq (⟨"SeatSceneModel", "isCanon", "(I)Z"⟩, 24) := ⟨⟨by decide +kernel, by decide +kernel⟩, List.mem_of_getElem? (i := 770) (by decide +kernel), List.mem_of_getElem? (i := 986) (by decide +kernel), List.mem_of_getElem? (i := 987) (by decide +kernel)⟩
theorem lw_p42 : lw_okq (⟨"SeatSceneModel", "isSeat", "(I)Z"⟩, 24) := ⟨⟨by decide +kernel, by decide +kernel⟩, List.mem_of_getElem? (i := 770) (by decide +kernel), List.mem_of_getElem? (i := 990) (by decide +kernel), List.mem_of_getElem? (i := 991) (by decide +kernel)⟩
theorem lw_p43 : lw_okq (⟨"SeatSceneModel", "badTen", "()I"⟩, 24) := ⟨⟨by decide +kernel, by decide +kernel⟩, List.mem_of_getElem? (i := 770) (by decide +kernel), List.mem_of_getElem? (i := 994) (by decide +kernel), List.mem_of_getElem? (i := 995) (by decide +kernel)⟩
theorem lw_p44 : lw_okq (⟨"SeatSceneModel", "remember", "()V"⟩, 24) := ⟨⟨by decide +kernel, by decide +kernel⟩, List.mem_of_getElem? (i := 770) (by decide +kernel), List.mem_of_getElem? (i := 998) (by decide +kernel), List.mem_of_getElem? (i := 999) (by decide +kernel)⟩
theorem lw_p45 : lw_okq (⟨"SeatSceneModel", "whoDo", "([I)I"⟩, 24) := ⟨⟨by decide +kernel, by decide +kernel⟩, List.mem_of_getElem? (i := 770) (by decide +kernel), List.mem_of_getElem? (i := 1014) (by decide +kernel), List.mem_of_getElem? (i := 1015) (by decide +kernel)⟩
theorem lw_p46 : lw_okq (⟨"SeatSceneModel", "layYears", "(I)V"⟩, 24) := ⟨⟨by decide +kernel, by decide +kernel⟩, List.mem_of_getElem? (i := 770) (by decide +kernel), List.mem_of_getElem? (i := 1046) (by decide +kernel), List.mem_of_getElem? (i := 1047) (by decide +kernel)⟩
theorem lw_p47 : lw_okq (⟨"SeatSceneModel", "layAside", "()V"⟩, 24) := ⟨⟨by decide +kernel, by decide +kernel⟩, List.mem_of_getElem? (i := 770) (by decide +kernel), List.mem_of_getElem? (i := 1050) (by decide +kernel), List.mem_of_getElem? (i := 1051) (by decide +kernel)⟩
def lw_privs_3 : List (MethodName × Nat) := [(⟨"SeatSceneModel", "readsSeat", "()Z"⟩, 24), (⟨"SeatSceneModel", "number", "(II)Z"⟩, 24), (⟨"SeatSceneModel", "readsCanon", "()Z"⟩, 24), (⟨"SeatSceneModel", "readsSitting", "()Z"⟩, 24), (⟨"SeatSceneModel", "readsYears", "()Z"⟩, 24), (⟨"SeatSceneModel", "swapsRows", "()V"⟩, 24), (⟨"SeatSceneModel", "yearGoes", "([I)V"⟩, 24), (⟨"SeatSceneModel", "oneTakes", "([II)V"⟩, 24), (⟨"SeatSceneModel", "takesOn", "([III)I"⟩, 24), (⟨"SeatSceneModel", "isCanon", "(I)Z"⟩, 24), (⟨"SeatSceneModel", "isSeat", "(I)Z"⟩, 24), (⟨"SeatSceneModel", "badTen", "()I"⟩, 24), (⟨"SeatSceneModel", "remember", "()V"⟩, 24), (⟨"SeatSceneModel", "whoDo", "([I)I"⟩, 24), (⟨"SeatSceneModel", "layYears", "(I)V"⟩, 24), (⟨"SeatSceneModel", "layAside", "()V"⟩, 24)]
theorem lw_r3 : ∀ q ∈ lw_privs_3, lw_okq q := List.forall_mem_cons.mpr ⟨lw_p32, List.forall_mem_cons.mpr ⟨lw_p33, List.forall_mem_cons.mpr ⟨lw_p34, List.forall_mem_cons.mpr ⟨lw_p35, List.forall_mem_cons.mpr ⟨lw_p36, List.forall_mem_cons.mpr ⟨lw_p37, List.forall_mem_cons.mpr ⟨lw_p38, List.forall_mem_cons.mpr ⟨lw_p39, List.forall_mem_cons.mpr ⟨lw_p40, List.forall_mem_cons.mpr ⟨lw_p41, List.forall_mem_cons.mpr ⟨lw_p42, List.forall_mem_cons.mpr ⟨lw_p43, List.forall_mem_cons.mpr ⟨lw_p44, List.forall_mem_cons.mpr ⟨lw_p45, List.forall_mem_cons.mpr ⟨lw_p46, List.forall_mem_cons.mpr ⟨lw_p47, fun _ h => absurd h List.not_mem_nil⟩⟩⟩⟩⟩⟩⟩⟩⟩⟩⟩⟩⟩⟩⟩⟩
theorem lw_p48 : lw_okq (⟨"SeatSceneModel", "untilTaken", "(III)I"⟩, 24) := ⟨⟨by decide +kernel, by decide +kernel⟩, List.mem_of_getElem? (i := 770) (by decide +kernel), List.mem_of_getElem? (i := 1063) (by decide +kernel), List.mem_of_getElem? (i := 1064) (by decide +kernel)⟩
theorem lw_p49 : lw_okq (⟨"SeatSceneModel", "laysSeating", "(I)I"⟩, 24) := ⟨⟨by decide +kernel, by decide +kernel⟩, List.mem_of_getElem? (i := 770) (by decide +kernel), List.mem_of_getElem? (i := 1089) (by decide +kernel), List.mem_of_getElem? (i := 1090) (by decide +kernel)⟩
theorem lw_p50 : lw_okq (⟨"SeatSceneModel", "fulfilled", "(III)I"⟩, 24) := ⟨⟨by decide +kernel, by decide +kernel⟩, List.mem_of_getElem? (i := 770) (by decide +kernel), List.mem_of_getElem? (i := 1093) (by decide +kernel), List.mem_of_getElem? (i := 1094) (by decide +kernel)⟩
theorem lw_p51 : lw_okq (⟨"SeatSceneModel", "aloneGoes", "(I)V"⟩, 24) := ⟨⟨by decide +kernel, by decide +kernel⟩, List.mem_of_getElem? (i := 770) (by decide +kernel), List.mem_of_getElem? (i := 1097) (by decide +kernel), List.mem_of_getElem? (i := 1098) (by decide +kernel)⟩
theorem lw_p52 : lw_okq (⟨"SeatSceneModel", "nextRow", "()Z"⟩, 24) := ⟨⟨by decide +kernel, by decide +kernel⟩, List.mem_of_getElem? (i := 770) (by decide +kernel), List.mem_of_getElem? (i := 1101) (by decide +kernel), List.mem_of_getElem? (i := 1102) (by decide +kernel)⟩
theorem lw_p53 : lw_okq (⟨"SeatSceneModel", "isBefore", "(I)Z"⟩, 24) := ⟨⟨by decide +kernel, by decide +kernel⟩, List.mem_of_getElem? (i := 770) (by decide +kernel), List.mem_of_getElem? (i := 1105) (by decide +kernel), List.mem_of_getElem? (i := 1106) (by decide +kernel)⟩
theorem lw_p54 : lw_okq (⟨"SeatSceneModel", "nextOrder", "(I)Z"⟩, 24) := ⟨⟨by decide +kernel, by decide +kernel⟩, List.mem_of_getElem? (i := 770) (by decide +kernel), List.mem_of_getElem? (i := 1117) (by decide +kernel), List.mem_of_getElem? (i := 1118) (by decide +kernel)⟩
theorem lw_p55 : lw_okq (⟨"SeatSceneModel", "kindsOf", "(I)I"⟩, 24) := ⟨⟨by decide +kernel, by decide +kernel⟩, List.mem_of_getElem? (i := 770) (by decide +kernel), List.mem_of_getElem? (i := 1147) (by decide +kernel), List.mem_of_getElem? (i := 1148) (by decide +kernel)⟩
theorem lw_p56 : lw_okq (⟨"SeatSceneModel", "countsNone", "()V"⟩, 24) := ⟨⟨by decide +kernel, by decide +kernel⟩, List.mem_of_getElem? (i := 770) (by decide +kernel), List.mem_of_getElem? (i := 1155) (by decide +kernel), List.mem_of_getElem? (i := 1156) (by decide +kernel)⟩
theorem lw_p57 : lw_okq (⟨"SeatSceneModel", "counts", "(I)V"⟩, 24) := ⟨⟨by decide +kernel, by decide +kernel⟩, List.mem_of_getElem? (i := 770) (by decide +kernel), List.mem_of_getElem? (i := 1162) (by decide +kernel), List.mem_of_getElem? (i := 1163) (by decide +kernel)⟩
theorem lw_p58 : lw_okq (⟨"SeatSceneModel", "kindsOfOne", "(I)I"⟩, 24) := ⟨⟨by decide +kernel, by decide +kernel⟩, List.mem_of_getElem? (i := 770) (by decide +kernel), List.mem_of_getElem? (i := 1170) (by decide +kernel), List.mem_of_getElem? (i := 1171) (by decide +kernel)⟩
theorem lw_p59 : lw_okq (⟨"SeatSceneModel", "stays", "(III)Z"⟩, 24) := ⟨⟨by decide +kernel, by decide +kernel⟩, List.mem_of_getElem? (i := 770) (by decide +kernel), List.mem_of_getElem? (i := 1182) (by decide +kernel), List.mem_of_getElem? (i := 1183) (by decide +kernel)⟩
theorem lw_p60 : lw_okq (⟨"SeatSceneModel", "fraction", "(JJ)V"⟩, 24) := ⟨⟨by decide +kernel, by decide +kernel⟩, List.mem_of_getElem? (i := 770) (by decide +kernel), List.mem_of_getElem? (i := 1191) (by decide +kernel), List.mem_of_getElem? (i := 1192) (by decide +kernel)⟩
theorem lw_p61 : lw_okq (⟨"SeatSceneModel", "counted", "(I)I"⟩, 24) := ⟨⟨by decide +kernel, by decide +kernel⟩, List.mem_of_getElem? (i := 770) (by decide +kernel), List.mem_of_getElem? (i := 1225) (by decide +kernel), List.mem_of_getElem? (i := 1226) (by decide +kernel)⟩
theorem lw_p62 : lw_okq (⟨"SeatSceneModel", "whoSit", "()I"⟩, 24) := ⟨⟨by decide +kernel, by decide +kernel⟩, List.mem_of_getElem? (i := 770) (by decide +kernel), List.mem_of_getElem? (i := 1229) (by decide +kernel), List.mem_of_getElem? (i := 1230) (by decide +kernel)⟩
theorem lw_p63 : lw_okq (⟨"SeatSceneModel", "sum", "(II)I"⟩, 24) := ⟨⟨by decide +kernel, by decide +kernel⟩, List.mem_of_getElem? (i := 770) (by decide +kernel), List.mem_of_getElem? (i := 1233) (by decide +kernel), List.mem_of_getElem? (i := 1234) (by decide +kernel)⟩
def lw_privs_4 : List (MethodName × Nat) := [(⟨"SeatSceneModel", "untilTaken", "(III)I"⟩, 24), (⟨"SeatSceneModel", "laysSeating", "(I)I"⟩, 24), (⟨"SeatSceneModel", "fulfilled", "(III)I"⟩, 24), (⟨"SeatSceneModel", "aloneGoes", "(I)V"⟩, 24), (⟨"SeatSceneModel", "nextRow", "()Z"⟩, 24), (⟨"SeatSceneModel", "isBefore", "(I)Z"⟩, 24), (⟨"SeatSceneModel", "nextOrder", "(I)Z"⟩, 24), (⟨"SeatSceneModel", "kindsOf", "(I)I"⟩, 24), (⟨"SeatSceneModel", "countsNone", "()V"⟩, 24), (⟨"SeatSceneModel", "counts", "(I)V"⟩, 24), (⟨"SeatSceneModel", "kindsOfOne", "(I)I"⟩, 24), (⟨"SeatSceneModel", "stays", "(III)Z"⟩, 24), (⟨"SeatSceneModel", "fraction", "(JJ)V"⟩, 24), (⟨"SeatSceneModel", "counted", "(I)I"⟩, 24), (⟨"SeatSceneModel", "whoSit", "()I"⟩, 24), (⟨"SeatSceneModel", "sum", "(II)I"⟩, 24)]
theorem lw_r4 : ∀ q ∈ lw_privs_4, lw_okq q := List.forall_mem_cons.mpr ⟨lw_p48, List.forall_mem_cons.mpr ⟨lw_p49, List.forall_mem_cons.mpr ⟨lw_p50, List.forall_mem_cons.mpr ⟨lw_p51, List.forall_mem_cons.mpr ⟨lw_p52, List.forall_mem_cons.mpr ⟨lw_p53, List.forall_mem_cons.mpr ⟨lw_p54, List.forall_mem_cons.mpr ⟨lw_p55, List.forall_mem_cons.mpr ⟨lw_p56, List.forall_mem_cons.mpr ⟨lw_p57, List.forall_mem_cons.mpr ⟨lw_p58, List.forall_mem_cons.mpr ⟨lw_p59, List.forall_mem_cons.mpr ⟨lw_p60, List.forall_mem_cons.mpr ⟨lw_p61, List.forall_mem_cons.mpr ⟨lw_p62, List.forall_mem_cons.mpr ⟨lw_p63, fun _ h => absurd h List.not_mem_nil⟩⟩⟩⟩⟩⟩⟩⟩⟩⟩⟩⟩⟩⟩⟩⟩
theorem lw_p64 : lw_okq (⟨"SeatSceneModel", "digests", "(II)V"⟩, 24) := ⟨⟨by decide +kernel, by decide +kernel⟩, List.mem_of_getElem? (i := 770) (by decide +kernel), List.mem_of_getElem? (i := 1243) (by decide +kernel), List.mem_of_getElem? (i := 1244) (by decide +kernel)⟩
def lw_privs_5 : List (MethodName × Nat) := [(⟨"SeatSceneModel", "digests", "(II)V"⟩, 24)]
theorem lw_r5 : ∀ q ∈ lw_privs_5, lw_okq q := List.forall_mem_cons.mpr ⟨lw_p64, fun _ h => absurd h List.not_mem_nil⟩
def lw_privs : List (MethodName × Nat) := lw_privs_1 ++ (lw_privs_2 ++ (lw_privs_3 ++ (lw_privs_4 ++ (lw_privs_5))))
def lw_tbl : List Cond := k2_sels lw_privs ++ tables_1
theorem lw_privs_ok : ∀ q ∈ lw_privs, lw_okq q := by
  show ∀ q ∈ lw_privs_1 ++ (lw_privs_2 ++ (lw_privs_3 ++ (lw_privs_4 ++ (lw_privs_5)))), lw_okq q
  exact List.forall_mem_append.mpr ⟨lw_r1, List.forall_mem_append.mpr ⟨lw_r2, List.forall_mem_append.mpr ⟨lw_r3, List.forall_mem_append.mpr ⟨lw_r4, lw_r5⟩⟩⟩⟩
def RX0 : String := "SeatScene$Chapter"
def TX0 : u_T := fun k => match k with
  | 0 => ("SeatScene$Chapter", "seats", "I", false)
  | 1 => ("SeatScene$Chapter", "canons", "I", false)
  | 2 => ("SeatScene$Chapter", "pastCount", "I", false)
  | 3 => ("SeatScene$Chapter", "seatKind", "[I", true)
  | 4 => ("SeatScene$Chapter", "seatTrait", "[I", true)
  | 5 => ("SeatScene$Chapter", "canonKind", "[I", true)
  | 6 => ("SeatScene$Chapter", "canonWeight", "[I", true)
  | 7 => ("SeatScene$Chapter", "heaviness", "[I", true)
  | 8 => ("SeatScene$Chapter", "scene", "LSeatScene$Scene;", true)
  | 9 => ("SeatScene$Chapter", "past", "[LSeatScene$Scene;", true)
  | 10 => ("SeatScene$Chapter", "wishes", "LSeatScene$Rows;", true)
  | 11 => ("SeatScene$Chapter", "notes", "LSeatScene$Rows;", true)
  | _ => ("SeatScene$Chapter", "marks", "LSeatScene$Rows;", true)
def tyX0 : Nat → FieldType := fun k => match k with
  | 0 => .int
  | 1 => .int
  | 2 => .int
  | 3 => .array .int
  | 4 => .array .int
  | 5 => .array .int
  | 6 => .array .int
  | 7 => .array .int
  | 8 => .object "SeatScene$Scene"
  | 9 => .array (.object "SeatScene$Scene")
  | 10 => .object "SeatScene$Rows"
  | 11 => .object "SeatScene$Rows"
  | _ => .object "SeatScene$Rows"
abbrev wsX00 : List Cond := u_ws RX0 TX0 13
theorem nmX0 : ∀ a, a < 13 → ∀ b, b < 13 → a ≠ b → (TX0 a).2.1 ≠ (TX0 b).2.1 := by decide +kernel
theorem tyX0_ok : ∀ k, k < 13 → parseFieldDescriptor (TX0 k).2.2.1 = some (tyX0 k) := by decide +kernel
abbrev cX0_init : ByteArray := prog_2_method_1_code
def yX0_init : MethodName := ⟨RX0, "<init>", "()V"⟩
abbrev cX0_empty : ByteArray := prog_2_method_2_code
def yX0_empty : MethodName := ⟨RX0, "empty", "()V"⟩
abbrev cX0_become : ByteArray := prog_2_method_3_code
def yX0_become : MethodName := ⟨RX0, "become", "(LSeatScene$Chapter;)V"⟩
abbrev cX0_addSeat : ByteArray := prog_2_method_4_code
def yX0_addSeat : MethodName := ⟨RX0, "addSeat", "(III)I"⟩
abbrev cX0_addCanon : ByteArray := prog_2_method_5_code
def yX0_addCanon : MethodName := ⟨RX0, "addCanon", "(II)I"⟩
abbrev cX0_keepPast : ByteArray := prog_2_method_6_code
def yX0_keepPast : MethodName := ⟨RX0, "keepPast", "()V"⟩
abbrev cX0_goBack : ByteArray := prog_2_method_7_code
def yX0_goBack : MethodName := ⟨RX0, "goBack", "()V"⟩
abbrev cX0_wouldTake : ByteArray := prog_2_method_8_code
def yX0_wouldTake : MethodName := ⟨RX0, "wouldTake", "(LSeatScene$Scene;II)I"⟩
abbrev cX0_passFor : ByteArray := prog_2_method_9_code
def yX0_passFor : MethodName := ⟨RX0, "passFor", "(LSeatScene$Scene;I)V"⟩
abbrev cX0_pass : ByteArray := prog_2_method_10_code
def yX0_pass : MethodName := ⟨RX0, "pass", "(LSeatScene$Scene;)V"⟩
abbrev cX0_passUpToLast : ByteArray := prog_2_method_11_code
def yX0_passUpToLast : MethodName := ⟨RX0, "passUpToLast", "(I)V"⟩
abbrev cX0_mix : ByteArray := prog_2_method_12_code
def yX0_mix : MethodName := ⟨RX0, "mix", "(J)J"⟩
def RX1 : String := "SeatScene$Rows"
def TX1 : u_T := fun k => match k with
  | 0 => ("SeatScene$Rows", "width", "I", true)
  | 1 => ("SeatScene$Rows", "many", "I", false)
  | _ => ("SeatScene$Rows", "cells", "[I", true)
def tyX1 : Nat → FieldType := fun k => match k with
  | 0 => .int
  | 1 => .int
  | _ => .array .int
abbrev wsX10 : List Cond := u_ws RX1 TX1 3
theorem nmX1 : ∀ a, a < 3 → ∀ b, b < 3 → a ≠ b → (TX1 a).2.1 ≠ (TX1 b).2.1 := by decide +kernel
theorem tyX1_ok : ∀ k, k < 3 → parseFieldDescriptor (TX1 k).2.2.1 = some (tyX1 k) := by decide +kernel
abbrev cX1_init : ByteArray := prog_3_method_1_code
def yX1_init : MethodName := ⟨RX1, "<init>", "(I)V"⟩
abbrev cX1_become : ByteArray := prog_3_method_2_code
def yX1_become : MethodName := ⟨RX1, "become", "(LSeatScene$Rows;)V"⟩
abbrev cX1_add : ByteArray := prog_3_method_3_code
def yX1_add : MethodName := ⟨RX1, "add", "(IIIII)V"⟩
abbrev cX1_at : ByteArray := prog_3_method_4_code
def yX1_at : MethodName := ⟨RX1, "at", "(II)I"⟩
abbrev cX1_mix : ByteArray := prog_3_method_5_code
def yX1_mix : MethodName := ⟨RX1, "mix", "(J)J"⟩
def RX2 : String := "SeatScene$Scene"
def TX2 : u_T := fun k => match k with
  | 0 => ("SeatScene$Scene", "year", "I", false)
  | 1 => ("SeatScene$Scene", "seatOf", "[I", true)
  | 2 => ("SeatScene$Scene", "taken", "[I", true)
  | _ => ("SeatScene$Scene", "depth", "[I", true)
def tyX2 : Nat → FieldType := fun k => match k with
  | 0 => .int
  | 1 => .array .int
  | 2 => .array .int
  | _ => .array .int
abbrev wsX20 : List Cond := u_ws RX2 TX2 4
theorem nmX2 : ∀ a, a < 4 → ∀ b, b < 4 → a ≠ b → (TX2 a).2.1 ≠ (TX2 b).2.1 := by decide +kernel
theorem tyX2_ok : ∀ k, k < 4 → parseFieldDescriptor (TX2 k).2.2.1 = some (tyX2 k) := by decide +kernel
abbrev cX2_init : ByteArray := prog_4_method_1_code
def yX2_init : MethodName := ⟨RX2, "<init>", "()V"⟩
abbrev cX2_empty : ByteArray := prog_4_method_2_code
def yX2_empty : MethodName := ⟨RX2, "empty", "()V"⟩
abbrev cX2_become : ByteArray := prog_4_method_3_code
def yX2_become : MethodName := ⟨RX2, "become", "(LSeatScene$Scene;)V"⟩
abbrev cX2_takenOf : ByteArray := prog_4_method_4_code
def yX2_takenOf : MethodName := ⟨RX2, "takenOf", "(II)I"⟩
abbrev cX2_sitter : ByteArray := prog_4_method_5_code
def yX2_sitter : MethodName := ⟨RX2, "sitter", "(I)I"⟩
abbrev cX2_isHeldByOther : ByteArray := prog_4_method_6_code
def yX2_isHeldByOther : MethodName := ⟨RX2, "isHeldByOther", "(II)Z"⟩
abbrev cX2_exchange : ByteArray := prog_4_method_7_code
def yX2_exchange : MethodName := ⟨RX2, "exchange", "(II)V"⟩
abbrev cX2_doing : ByteArray := prog_4_method_8_code
def yX2_doing : MethodName := ⟨RX2, "doing", "(I)I"⟩
abbrev cX2_doers : ByteArray := prog_4_method_9_code
def yX2_doers : MethodName := ⟨RX2, "doers", "()I"⟩
abbrev cX2_firstDoing : ByteArray := prog_4_method_10_code
def yX2_firstDoing : MethodName := ⟨RX2, "firstDoing", "(II)I"⟩
abbrev cX2_whoSit : ByteArray := prog_4_method_11_code
def yX2_whoSit : MethodName := ⟨RX2, "whoSit", "()I"⟩
def RX3 : String := "SeatScene$Search"
def TX3 : u_T := fun k => match k with
  | 0 => ("SeatScene$Search", "seats", "I", false)
  | 1 => ("SeatScene$Search", "canons", "I", false)
  | 2 => ("SeatScene$Search", "most", "I", false)
  | 3 => ("SeatScene$Search", "best", "[I", true)
  | 4 => ("SeatScene$Search", "way", "[I", true)
  | 5 => ("SeatScene$Search", "gain", "[I", true)
  | _ => ("SeatScene$Search", "hope", "[I", true)
def tyX3 : Nat → FieldType := fun k => match k with
  | 0 => .int
  | 1 => .int
  | 2 => .int
  | 3 => .array .int
  | 4 => .array .int
  | 5 => .array .int
  | _ => .array .int
abbrev wsX30 : List Cond := u_ws RX3 TX3 7
theorem nmX3 : ∀ a, a < 7 → ∀ b, b < 7 → a ≠ b → (TX3 a).2.1 ≠ (TX3 b).2.1 := by decide +kernel
theorem tyX3_ok : ∀ k, k < 7 → parseFieldDescriptor (TX3 k).2.2.1 = some (tyX3 k) := by decide +kernel
abbrev cX3_init : ByteArray := prog_5_method_1_code
def yX3_init : MethodName := ⟨RX3, "<init>", "()V"⟩
abbrev cX3_settle : ByteArray := prog_5_method_2_code
def yX3_settle : MethodName := ⟨RX3, "settle", "(LSeatScene$Chapter;LSeatScene$Scene;I)V"⟩
abbrev cX3_wishesCome : ByteArray := prog_5_method_3_code
def yX3_wishesCome : MethodName := ⟨RX3, "wishesCome", "(LSeatScene$Chapter;LSeatScene$Scene;III)I"⟩
abbrev cX3_tryFrom : ByteArray := prog_5_method_4_code
def yX3_tryFrom : MethodName := ⟨RX3, "tryFrom", "(LSeatScene$Search;III)V"⟩
def RX4 : String := "SeatScene$Text"
def TX4 : u_T := fun k => match k with
  | 0 => ("SeatScene$Text", "bytes", "[B", true)
  | 1 => ("SeatScene$Text", "length", "I", false)
  | 2 => ("SeatScene$Text", "start", "I", false)
  | 3 => ("SeatScene$Text", "end", "I", false)
  | 4 => ("SeatScene$Text", "sort", "I", false)
  | 5 => ("SeatScene$Text", "value", "I", false)
  | 6 => ("SeatScene$Text", "word", "I", false)
  | _ => ("SeatScene$Text", "number", "[I", true)
def tyX4 : Nat → FieldType := fun k => match k with
  | 0 => .array .byte
  | 1 => .int
  | 2 => .int
  | 3 => .int
  | 4 => .int
  | 5 => .int
  | 6 => .int
  | _ => .array .int
abbrev wsX40 : List Cond := u_ws RX4 TX4 8
theorem nmX4 : ∀ a, a < 8 → ∀ b, b < 8 → a ≠ b → (TX4 a).2.1 ≠ (TX4 b).2.1 := by decide +kernel
theorem tyX4_ok : ∀ k, k < 8 → parseFieldDescriptor (TX4 k).2.2.1 = some (tyX4 k) := by decide +kernel
abbrev cX4_init : ByteArray := prog_6_method_1_code
def yX4_init : MethodName := ⟨RX4, "<init>", "()V"⟩
abbrev cX4_tell : ByteArray := prog_6_method_2_code
def yX4_tell : MethodName := ⟨RX4, "tell", "(LSeatScene$Chapter;)I"⟩
abbrev cX4_takeItem : ByteArray := prog_6_method_3_code
def yX4_takeItem : MethodName := ⟨RX4, "takeItem", "(LSeatScene$Chapter;Z)Z"⟩
abbrev cX4_takeNumber : ByteArray := prog_6_method_4_code
def yX4_takeNumber : MethodName := ⟨RX4, "takeNumber", "(III)Z"⟩
abbrev cX4_takeStop : ByteArray := prog_6_method_5_code
def yX4_takeStop : MethodName := ⟨RX4, "takeStop", "()Z"⟩
abbrev cX4_step : ByteArray := prog_6_method_6_code
def yX4_step : MethodName := ⟨RX4, "step", "()V"⟩
abbrev cX4_stepWord : ByteArray := prog_6_method_7_code
def yX4_stepWord : MethodName := ⟨RX4, "stepWord", "()V"⟩
abbrev cX4_stepNumber : ByteArray := prog_6_method_8_code
def yX4_stepNumber : MethodName := ⟨RX4, "stepNumber", "()V"⟩
abbrev cX4_isLetter : ByteArray := prog_6_method_9_code
def yX4_isLetter : MethodName := ⟨RX4, "isLetter", "(I)Z"⟩
abbrev cX4_isFigure : ByteArray := prog_6_method_10_code
def yX4_isFigure : MethodName := ⟨RX4, "isFigure", "(I)Z"⟩
abbrev cX4_wordNumber : ByteArray := prog_6_method_11_code
def yX4_wordNumber : MethodName := ⟨RX4, "wordNumber", "()I"⟩
abbrev cX4_isWord : ByteArray := prog_6_method_12_code
def yX4_isWord : MethodName := ⟨RX4, "isWord", "(Ljava/lang/String;)Z"⟩
def RX5 : String := "SeatScene"
def TX5 : u_T := fun k => match k with
  | 0 => ("SeatScene", "now", "LSeatScene$Chapter;", true)
  | 1 => ("SeatScene", "spare", "LSeatScene$Chapter;", true)
  | 2 => ("SeatScene", "images", "[LSeatScene$Chapter;", true)
  | 3 => ("SeatScene", "kept", "[Z", true)
  | 4 => ("SeatScene", "ahead", "LSeatScene$Scene;", true)
  | 5 => ("SeatScene", "text", "LSeatScene$Text;", true)
  | 6 => ("SeatScene", "search", "LSeatScene$Search;", true)
  | 7 => ("SeatScene", "order", "[I", true)
  | 8 => ("SeatScene", "alike", "[I", true)
  | 9 => ("SeatScene", "getsA", "[I", true)
  | 10 => ("SeatScene", "getsB", "[I", true)
  | 11 => ("SeatScene", "refused", "[I", true)
  | 12 => ("SeatScene", "above", "J", false)
  | _ => ("SeatScene", "below", "J", false)
def tyX5 : Nat → FieldType := fun k => match k with
  | 0 => .object "SeatScene$Chapter"
  | 1 => .object "SeatScene$Chapter"
  | 2 => .array (.object "SeatScene$Chapter")
  | 3 => .array .boolean
  | 4 => .object "SeatScene$Scene"
  | 5 => .object "SeatScene$Text"
  | 6 => .object "SeatScene$Search"
  | 7 => .array .int
  | 8 => .array .int
  | 9 => .array .int
  | 10 => .array .int
  | 11 => .array .int
  | 12 => .long
  | _ => .long
abbrev wsX50 : List Cond := u_ws RX5 TX5 14
theorem nmX5 : ∀ a, a < 14 → ∀ b, b < 14 → a ≠ b → (TX5 a).2.1 ≠ (TX5 b).2.1 := by decide +kernel
theorem tyX5_ok : ∀ k, k < 14 → parseFieldDescriptor (TX5 k).2.2.1 = some (tyX5 k) := by decide +kernel
abbrev cX5_init : ByteArray := prog_1_method_1_code
def yX5_init : MethodName := ⟨RX5, "<init>", "()V"⟩
abbrev cX5_chapter : ByteArray := prog_1_method_2_code
def yX5_chapter : MethodName := ⟨RX5, "chapter", "()I"⟩
abbrev cX5_seat : ByteArray := prog_1_method_3_code
def yX5_seat : MethodName := ⟨RX5, "seat", "(III)I"⟩
abbrev cX5_canon : ByteArray := prog_1_method_4_code
def yX5_canon : MethodName := ⟨RX5, "canon", "(II)I"⟩
abbrev cX5_type : ByteArray := prog_1_method_5_code
def yX5_type : MethodName := ⟨RX5, "type", "(I)I"⟩
abbrev cX5_clear : ByteArray := prog_1_method_6_code
def yX5_clear : MethodName := ⟨RX5, "clear", "()I"⟩
abbrev cX5_read : ByteArray := prog_1_method_7_code
def yX5_read : MethodName := ⟨RX5, "read", "()I"⟩
abbrev cX5_sits : ByteArray := prog_1_method_8_code
def yX5_sits : MethodName := ⟨RX5, "sits", "(II)I"⟩
abbrev cX5_swap : ByteArray := prog_1_method_9_code
def yX5_swap : MethodName := ⟨RX5, "swap", "(II)I"⟩
abbrev cX5_year : ByteArray := prog_1_method_10_code
def yX5_year : MethodName := ⟨RX5, "year", "(I)I"⟩
abbrev cX5_undo : ByteArray := prog_1_method_11_code
def yX5_undo : MethodName := ⟨RX5, "undo", "()I"⟩
abbrev cX5_of : ByteArray := prog_1_method_12_code
def yX5_of : MethodName := ⟨RX5, "of", "(II)I"⟩
abbrev cX5_about : ByteArray := prog_1_method_13_code
def yX5_about : MethodName := ⟨RX5, "about", "(II)I"⟩
abbrev cX5_taken : ByteArray := prog_1_method_14_code
def yX5_taken : MethodName := ⟨RX5, "taken", "(II)I"⟩
abbrev cX5_takes : ByteArray := prog_1_method_15_code
def yX5_takes : MethodName := ⟨RX5, "takes", "(II)I"⟩
abbrev cX5_then : ByteArray := prog_1_method_16_code
def yX5_then : MethodName := ⟨RX5, "then", "(III)I"⟩
abbrev cX5_depth : ByteArray := prog_1_method_17_code
def yX5_depth : MethodName := ⟨RX5, "depth", "(II)I"⟩
abbrev cX5_when : ByteArray := prog_1_method_18_code
def yX5_when : MethodName := ⟨RX5, "when", "(III)I"⟩
abbrev cX5_first : ByteArray := prog_1_method_19_code
def yX5_first : MethodName := ⟨RX5, "first", "(II)I"⟩
abbrev cX5_blank : ByteArray := prog_1_method_20_code
def yX5_blank : MethodName := ⟨RX5, "blank", "(I)I"⟩
abbrev cX5_place : ByteArray := prog_1_method_21_code
def yX5_place : MethodName := ⟨RX5, "place", "(IIII)I"⟩
abbrev cX5_wish : ByteArray := prog_1_method_22_code
def yX5_wish : MethodName := ⟨RX5, "wish", "(III)I"⟩
abbrev cX5_seating : ByteArray := prog_1_method_23_code
def yX5_seating : MethodName := ⟨RX5, "seating", "(II)I"⟩
abbrev cX5_quarrels : ByteArray := prog_1_method_24_code
def yX5_quarrels : MethodName := ⟨RX5, "quarrels", "()I"⟩
abbrev cX5_row : ByteArray := prog_1_method_25_code
def yX5_row : MethodName := ⟨RX5, "row", "(I)I"⟩
abbrev cX5_blur : ByteArray := prog_1_method_26_code
def yX5_blur : MethodName := ⟨RX5, "blur", "(IIII)I"⟩
abbrev cX5_where : ByteArray := prog_1_method_27_code
def yX5_where : MethodName := ⟨RX5, "where", "(III)I"⟩
abbrev cX5_note : ByteArray := prog_1_method_28_code
def yX5_note : MethodName := ⟨RX5, "note", "(IIIII)I"⟩
abbrev cX5_mark : ByteArray := prog_1_method_29_code
def yX5_mark : MethodName := ⟨RX5, "mark", "(IIII)I"⟩
abbrev cX5_forget : ByteArray := prog_1_method_30_code
def yX5_forget : MethodName := ⟨RX5, "forget", "(I)I"⟩
abbrev cX5_is : ByteArray := prog_1_method_31_code
def yX5_is : MethodName := ⟨RX5, "is", "(I)I"⟩
abbrev cX5_look : ByteArray := prog_1_method_32_code
def yX5_look : MethodName := ⟨RX5, "look", "(I)I"⟩
abbrev cX5_what : ByteArray := prog_1_method_33_code
def yX5_what : MethodName := ⟨RX5, "what", "(I)I"⟩
abbrev cX5_tries : ByteArray := prog_1_method_34_code
def yX5_tries : MethodName := ⟨RX5, "tries", "(I)I"⟩
abbrev cX5_two : ByteArray := prog_1_method_35_code
def yX5_two : MethodName := ⟨RX5, "two", "(III)I"⟩
abbrev cX5_left : ByteArray := prog_1_method_36_code
def yX5_left : MethodName := ⟨RX5, "left", "(III)I"⟩
abbrev cX5_years : ByteArray := prog_1_method_37_code
def yX5_years : MethodName := ⟨RX5, "years", "(II)I"⟩
abbrev cX5_part : ByteArray := prog_1_method_38_code
def yX5_part : MethodName := ⟨RX5, "part", "(I)J"⟩
abbrev cX5_image : ByteArray := prog_1_method_39_code
def yX5_image : MethodName := ⟨RX5, "image", "(I)I"⟩
abbrev cX5_from : ByteArray := prog_1_method_40_code
def yX5_from : MethodName := ⟨RX5, "from", "(I)I"⟩
abbrev cX5_status : ByteArray := prog_1_method_41_code
def yX5_status : MethodName := ⟨RX5, "status", "(I)I"⟩
abbrev cX5_count : ByteArray := prog_1_method_42_code
def yX5_count : MethodName := ⟨RX5, "count", "(I)I"⟩
abbrev cX5_digest : ByteArray := prog_1_method_43_code
def yX5_digest : MethodName := ⟨RX5, "digest", "()J"⟩
abbrev cX5_refuse : ByteArray := prog_1_method_44_code
def yX5_refuse : MethodName := ⟨RX5, "refuse", "(I)I"⟩
abbrev cX5_refuseAs : ByteArray := prog_1_method_45_code
def yX5_refuseAs : MethodName := ⟨RX5, "refuseAs", "(I)I"⟩
abbrev cX5_within : ByteArray := prog_1_method_46_code
def yX5_within : MethodName := ⟨RX5, "within", "(III)Z"⟩
abbrev cX5_isKind : ByteArray := prog_1_method_47_code
def yX5_isKind : MethodName := ⟨RX5, "isKind", "(I)Z"⟩
abbrev cX5_isTrait : ByteArray := prog_1_method_48_code
def yX5_isTrait : MethodName := ⟨RX5, "isTrait", "(I)Z"⟩
abbrev cX5_isAhead : ByteArray := prog_1_method_49_code
def yX5_isAhead : MethodName := ⟨RX5, "isAhead", "(I)Z"⟩
abbrev cX5_isSeat : ByteArray := prog_1_method_50_code
def yX5_isSeat : MethodName := ⟨RX5, "isSeat", "(I)Z"⟩
abbrev cX5_isSeatOrNone : ByteArray := prog_1_method_51_code
def yX5_isSeatOrNone : MethodName := ⟨RX5, "isSeatOrNone", "(I)Z"⟩
abbrev cX5_isCanon : ByteArray := prog_1_method_52_code
def yX5_isCanon : MethodName := ⟨RX5, "isCanon", "(I)Z"⟩
abbrev cX5_lookAhead : ByteArray := prog_1_method_53_code
def yX5_lookAhead : MethodName := ⟨RX5, "lookAhead", "(I)V"⟩
abbrev cX5_yearsUntil : ByteArray := prog_1_method_54_code
def yX5_yearsUntil : MethodName := ⟨RX5, "yearsUntil", "(IIII)I"⟩
abbrev cX5_write : ByteArray := prog_1_method_55_code
def yX5_write : MethodName := ⟨RX5, "write", "(LSeatScene$Rows;IIIII)I"⟩
abbrev cX5_seatKinds : ByteArray := prog_1_method_56_code
def yX5_seatKinds : MethodName := ⟨RX5, "seatKinds", "(I)I"⟩
abbrev cX5_canonKinds : ByteArray := prog_1_method_57_code
def yX5_canonKinds : MethodName := ⟨RX5, "canonKinds", "(I)I"⟩
abbrev cX5_mostAlike : ByteArray := prog_1_method_58_code
def yX5_mostAlike : MethodName := ⟨RX5, "mostAlike", "(I)I"⟩
abbrev cX5_isContent : ByteArray := prog_1_method_59_code
def yX5_isContent : MethodName := ⟨RX5, "isContent", "([III)Z"⟩
abbrev cX5_setFraction : ByteArray := prog_1_method_60_code
def yX5_setFraction : MethodName := ⟨RX5, "setFraction", "(JJ)V"⟩
abbrev cX5_power : ByteArray := prog_1_method_61_code
def yX5_power : MethodName := ⟨RX5, "power", "(JI)J"⟩
abbrev cX5_choices : ByteArray := prog_1_method_62_code
def yX5_choices : MethodName := ⟨RX5, "choices", "(II)J"⟩
abbrev cX5_howMany : ByteArray := prog_1_method_63_code
def yX5_howMany : MethodName := ⟨RX5, "howMany", "(I)I"⟩
abbrev cX5_sum : ByteArray := prog_1_method_64_code
def yX5_sum : MethodName := ⟨RX5, "sum", "([I)I"⟩
abbrev cX5_fillOrder : ByteArray := prog_1_method_65_code
def yX5_fillOrder : MethodName := ⟨RX5, "fillOrder", "(LSeatScene$Chapter;[III)Z"⟩
abbrev cX5_given : ByteArray := prog_1_method_66_code
def yX5_given : MethodName := ⟨RX5, "given", "(IIII)I"⟩
abbrev cX5_worn : ByteArray := prog_1_method_67_code
def yX5_worn : MethodName := ⟨RX5, "worn", "(II)I"⟩
abbrev cX5_accepted : ByteArray := prog_1_method_68_code
def yX5_accepted : MethodName := ⟨RX5, "accepted", "(III)I"⟩
abbrev cX5_heavy : ByteArray := prog_1_method_69_code
def yX5_heavy : MethodName := ⟨RX5, "heavy", "(II)I"⟩
def RX6 : String := "SeatSceneModel"
def TX6 : u_T := fun k => match k with
  | 0 => ("SeatSceneModel", "now", "[I", true)
  | 1 => ("SeatSceneModel", "read", "[I", true)
  | 2 => ("SeatSceneModel", "aside", "[I", true)
  | 3 => ("SeatSceneModel", "images", "[I", true)
  | 4 => ("SeatSceneModel", "kept", "[Z", true)
  | 5 => ("SeatSceneModel", "text", "[I", true)
  | 6 => ("SeatSceneModel", "size", "I", false)
  | 7 => ("SeatSceneModel", "above", "J", false)
  | 8 => ("SeatSceneModel", "below", "J", false)
  | 9 => ("SeatSceneModel", "refusals", "[I", true)
  | 10 => ("SeatSceneModel", "at", "I", false)
  | 11 => ("SeatSceneModel", "begin", "I", false)
  | 12 => ("SeatSceneModel", "token", "I", false)
  | 13 => ("SeatSceneModel", "letters", "I", false)
  | 14 => ("SeatSceneModel", "value", "I", false)
  | 15 => ("SeatSceneModel", "isLong", "Z", false)
  | 16 => ("SeatSceneModel", "seventh", "I", false)
  | 17 => ("SeatSceneModel", "many", "I", false)
  | 18 => ("SeatSceneModel", "fulfil", "[I", true)
  | 19 => ("SeatSceneModel", "row", "[I", true)
  | 20 => ("SeatSceneModel", "best", "[I", true)
  | 21 => ("SeatSceneModel", "alike", "[I", true)
  | 22 => ("SeatSceneModel", "most", "I", false)
  | _ => ("SeatSceneModel", "digested", "J", false)
def tyX6 : Nat → FieldType := fun k => match k with
  | 0 => .array .int
  | 1 => .array .int
  | 2 => .array .int
  | 3 => .array .int
  | 4 => .array .boolean
  | 5 => .array .int
  | 6 => .int
  | 7 => .long
  | 8 => .long
  | 9 => .array .int
  | 10 => .int
  | 11 => .int
  | 12 => .int
  | 13 => .int
  | 14 => .int
  | 15 => .boolean
  | 16 => .int
  | 17 => .int
  | 18 => .array .int
  | 19 => .array .int
  | 20 => .array .int
  | 21 => .array .int
  | 22 => .int
  | _ => .long
abbrev wsX60 : List Cond := u_ws RX6 TX6 24
theorem nmX6 : ∀ a, a < 24 → ∀ b, b < 24 → a ≠ b → (TX6 a).2.1 ≠ (TX6 b).2.1 := by decide +kernel
theorem tyX6_ok : ∀ k, k < 24 → parseFieldDescriptor (TX6 k).2.2.1 = some (tyX6 k) := by decide +kernel
abbrev cX6_init : ByteArray := prog_8_method_1_code
def yX6_init : MethodName := ⟨RX6, "<init>", "()V"⟩
abbrev cX6_in : ByteArray := prog_8_method_3_code
def yX6_in : MethodName := ⟨RX6, "in", "(JJJ)Z"⟩
abbrev cX6_has : ByteArray := prog_8_method_4_code
def yX6_has : MethodName := ⟨RX6, "has", "(II)Z"⟩
abbrev cX6_copies : ByteArray := prog_8_method_5_code
def yX6_copies : MethodName := ⟨RX6, "copies", "([II[III)V"⟩
abbrev cX6_refused : ByteArray := prog_8_method_6_code
def yX6_refused : MethodName := ⟨RX6, "refused", "(II)I"⟩
abbrev cX6_bad : ByteArray := prog_8_method_7_code
def yX6_bad : MethodName := ⟨RX6, "bad", "()I"⟩
abbrev cX6_badTen : ByteArray := prog_8_method_8_code
def yX6_badTen : MethodName := ⟨RX6, "badTen", "()I"⟩
abbrev cX6_empties : ByteArray := prog_8_method_9_code
def yX6_empties : MethodName := ⟨RX6, "empties", "([I)V"⟩
abbrev cX6_gives : ByteArray := prog_8_method_10_code
def yX6_gives : MethodName := ⟨RX6, "gives", "(IIII)I"⟩
abbrev cX6_worn : ByteArray := prog_8_method_11_code
def yX6_worn : MethodName := ⟨RX6, "worn", "(II)I"⟩
abbrev cX6_takesOf : ByteArray := prog_8_method_12_code
def yX6_takesOf : MethodName := ⟨RX6, "takesOf", "(III)I"⟩
abbrev cX6_heavy : ByteArray := prog_8_method_13_code
def yX6_heavy : MethodName := ⟨RX6, "heavy", "(II)I"⟩
abbrev cX6_takesOn : ByteArray := prog_8_method_14_code
def yX6_takesOn : MethodName := ⟨RX6, "takesOn", "([III)I"⟩
abbrev cX6_oneTakes : ByteArray := prog_8_method_15_code
def yX6_oneTakes : MethodName := ⟨RX6, "oneTakes", "([II)V"⟩
abbrev cX6_yearGoes : ByteArray := prog_8_method_16_code
def yX6_yearGoes : MethodName := ⟨RX6, "yearGoes", "([I)V"⟩
abbrev cX6_does : ByteArray := prog_8_method_17_code
def yX6_does : MethodName := ⟨RX6, "does", "([II)I"⟩
abbrev cX6_whoDo : ByteArray := prog_8_method_18_code
def yX6_whoDo : MethodName := ⟨RX6, "whoDo", "([I)I"⟩
abbrev cX6_whoOn : ByteArray := prog_8_method_19_code
def yX6_whoOn : MethodName := ⟨RX6, "whoOn", "([II)I"⟩
abbrev cX6_remember : ByteArray := prog_8_method_20_code
def yX6_remember : MethodName := ⟨RX6, "remember", "()V"⟩
abbrev cX6_layAside : ByteArray := prog_8_method_21_code
def yX6_layAside : MethodName := ⟨RX6, "layAside", "()V"⟩
abbrev cX6_isSeat : ByteArray := prog_8_method_22_code
def yX6_isSeat : MethodName := ⟨RX6, "isSeat", "(I)Z"⟩
abbrev cX6_isCanon : ByteArray := prog_8_method_23_code
def yX6_isCanon : MethodName := ⟨RX6, "isCanon", "(I)Z"⟩
abbrev cX6_isTrait : ByteArray := prog_8_method_24_code
def yX6_isTrait : MethodName := ⟨RX6, "isTrait", "(I)Z"⟩
abbrev cX6_chapter : ByteArray := prog_8_method_25_code
def yX6_chapter : MethodName := ⟨RX6, "chapter", "()I"⟩
abbrev cX6_seat : ByteArray := prog_8_method_26_code
def yX6_seat : MethodName := ⟨RX6, "seat", "(III)I"⟩
abbrev cX6_canon : ByteArray := prog_8_method_27_code
def yX6_canon : MethodName := ⟨RX6, "canon", "(II)I"⟩
abbrev cX6_type : ByteArray := prog_8_method_28_code
def yX6_type : MethodName := ⟨RX6, "type", "(I)I"⟩
abbrev cX6_clear : ByteArray := prog_8_method_29_code
def yX6_clear : MethodName := ⟨RX6, "clear", "()I"⟩
abbrev cX6_isLetter : ByteArray := prog_8_method_30_code
def yX6_isLetter : MethodName := ⟨RX6, "isLetter", "()Z"⟩
abbrev cX6_isFigure : ByteArray := prog_8_method_31_code
def yX6_isFigure : MethodName := ⟨RX6, "isFigure", "()Z"⟩
abbrev cX6_step : ByteArray := prog_8_method_32_code
def yX6_step : MethodName := ⟨RX6, "step", "()V"⟩
abbrev cX6_readsLetters : ByteArray := prog_8_method_33_code
def yX6_readsLetters : MethodName := ⟨RX6, "readsLetters", "()V"⟩
abbrev cX6_isWord : ByteArray := prog_8_method_34_code
def yX6_isWord : MethodName := ⟨RX6, "isWord", "(II)Z"⟩
abbrev cX6_number : ByteArray := prog_8_method_35_code
def yX6_number : MethodName := ⟨RX6, "number", "(II)Z"⟩
abbrev cX6_readsSeat : ByteArray := prog_8_method_36_code
def yX6_readsSeat : MethodName := ⟨RX6, "readsSeat", "()Z"⟩
abbrev cX6_readsCanon : ByteArray := prog_8_method_37_code
def yX6_readsCanon : MethodName := ⟨RX6, "readsCanon", "()Z"⟩
abbrev cX6_readsSitting : ByteArray := prog_8_method_38_code
def yX6_readsSitting : MethodName := ⟨RX6, "readsSitting", "()Z"⟩
abbrev cX6_readsYears : ByteArray := prog_8_method_39_code
def yX6_readsYears : MethodName := ⟨RX6, "readsYears", "()Z"⟩
abbrev cX6_swapsRows : ByteArray := prog_8_method_40_code
def yX6_swapsRows : MethodName := ⟨RX6, "swapsRows", "()V"⟩
abbrev cX6_readsItem : ByteArray := prog_8_method_41_code
def yX6_readsItem : MethodName := ⟨RX6, "readsItem", "(I)Z"⟩
abbrev cX6_read : ByteArray := prog_8_method_42_code
def yX6_read : MethodName := ⟨RX6, "read", "()I"⟩
abbrev cX6_sits : ByteArray := prog_8_method_43_code
def yX6_sits : MethodName := ⟨RX6, "sits", "(II)I"⟩
abbrev cX6_swaps : ByteArray := prog_8_method_44_code
def yX6_swaps : MethodName := ⟨RX6, "swaps", "([III)V"⟩
abbrev cX6_swap : ByteArray := prog_8_method_45_code
def yX6_swap : MethodName := ⟨RX6, "swap", "(II)I"⟩
abbrev cX6_year : ByteArray := prog_8_method_46_code
def yX6_year : MethodName := ⟨RX6, "year", "(I)I"⟩
abbrev cX6_undo : ByteArray := prog_8_method_47_code
def yX6_undo : MethodName := ⟨RX6, "undo", "()I"⟩
abbrev cX6_of : ByteArray := prog_8_method_48_code
def yX6_of : MethodName := ⟨RX6, "of", "(II)I"⟩
abbrev cX6_about : ByteArray := prog_8_method_49_code
def yX6_about : MethodName := ⟨RX6, "about", "(II)I"⟩
abbrev cX6_taken : ByteArray := prog_8_method_50_code
def yX6_taken : MethodName := ⟨RX6, "taken", "(II)I"⟩
abbrev cX6_takes : ByteArray := prog_8_method_51_code
def yX6_takes : MethodName := ⟨RX6, "takes", "(II)I"⟩
abbrev cX6_layYears : ByteArray := prog_8_method_52_code
def yX6_layYears : MethodName := ⟨RX6, "layYears", "(I)V"⟩
abbrev cX6_then : ByteArray := prog_8_method_53_code
def yX6_then : MethodName := ⟨RX6, "then", "(III)I"⟩
abbrev cX6_depth : ByteArray := prog_8_method_54_code
def yX6_depth : MethodName := ⟨RX6, "depth", "(II)I"⟩
abbrev cX6_untilTaken : ByteArray := prog_8_method_55_code
def yX6_untilTaken : MethodName := ⟨RX6, "untilTaken", "(III)I"⟩
abbrev cX6_when : ByteArray := prog_8_method_56_code
def yX6_when : MethodName := ⟨RX6, "when", "(III)I"⟩
abbrev cX6_first : ByteArray := prog_8_method_57_code
def yX6_first : MethodName := ⟨RX6, "first", "(II)I"⟩
abbrev cX6_blank : ByteArray := prog_8_method_58_code
def yX6_blank : MethodName := ⟨RX6, "blank", "(I)I"⟩
abbrev cX6_place : ByteArray := prog_8_method_59_code
def yX6_place : MethodName := ⟨RX6, "place", "(IIII)I"⟩
abbrev cX6_wish : ByteArray := prog_8_method_60_code
def yX6_wish : MethodName := ⟨RX6, "wish", "(III)I"⟩
abbrev cX6_fulfilled : ByteArray := prog_8_method_61_code
def yX6_fulfilled : MethodName := ⟨RX6, "fulfilled", "(III)I"⟩
abbrev cX6_aloneGoes : ByteArray := prog_8_method_62_code
def yX6_aloneGoes : MethodName := ⟨RX6, "aloneGoes", "(I)V"⟩
abbrev cX6_nextRow : ByteArray := prog_8_method_63_code
def yX6_nextRow : MethodName := ⟨RX6, "nextRow", "()Z"⟩
abbrev cX6_isBefore : ByteArray := prog_8_method_64_code
def yX6_isBefore : MethodName := ⟨RX6, "isBefore", "(I)Z"⟩
abbrev cX6_laysSeating : ByteArray := prog_8_method_65_code
def yX6_laysSeating : MethodName := ⟨RX6, "laysSeating", "(I)I"⟩
abbrev cX6_seating : ByteArray := prog_8_method_66_code
def yX6_seating : MethodName := ⟨RX6, "seating", "(II)I"⟩
abbrev cX6_quarrels : ByteArray := prog_8_method_67_code
def yX6_quarrels : MethodName := ⟨RX6, "quarrels", "()I"⟩
abbrev cX6_nextOrder : ByteArray := prog_8_method_68_code
def yX6_nextOrder : MethodName := ⟨RX6, "nextOrder", "(I)Z"⟩
abbrev cX6_row : ByteArray := prog_8_method_69_code
def yX6_row : MethodName := ⟨RX6, "row", "(I)I"⟩
abbrev cX6_blur : ByteArray := prog_8_method_70_code
def yX6_blur : MethodName := ⟨RX6, "blur", "(IIII)I"⟩
abbrev cX6_where : ByteArray := prog_8_method_71_code
def yX6_where : MethodName := ⟨RX6, "where", "(III)I"⟩
abbrev cX6_note : ByteArray := prog_8_method_72_code
def yX6_note : MethodName := ⟨RX6, "note", "(IIIII)I"⟩
abbrev cX6_mark : ByteArray := prog_8_method_73_code
def yX6_mark : MethodName := ⟨RX6, "mark", "(IIII)I"⟩
abbrev cX6_forget : ByteArray := prog_8_method_74_code
def yX6_forget : MethodName := ⟨RX6, "forget", "(I)I"⟩
abbrev cX6_kindsOf : ByteArray := prog_8_method_75_code
def yX6_kindsOf : MethodName := ⟨RX6, "kindsOf", "(I)I"⟩
abbrev cX6_is : ByteArray := prog_8_method_76_code
def yX6_is : MethodName := ⟨RX6, "is", "(I)I"⟩
abbrev cX6_counts : ByteArray := prog_8_method_77_code
def yX6_counts : MethodName := ⟨RX6, "counts", "(I)V"⟩
abbrev cX6_countsNone : ByteArray := prog_8_method_78_code
def yX6_countsNone : MethodName := ⟨RX6, "countsNone", "()V"⟩
abbrev cX6_look : ByteArray := prog_8_method_79_code
def yX6_look : MethodName := ⟨RX6, "look", "(I)I"⟩
abbrev cX6_kindsOfOne : ByteArray := prog_8_method_80_code
def yX6_kindsOfOne : MethodName := ⟨RX6, "kindsOfOne", "(I)I"⟩
abbrev cX6_what : ByteArray := prog_8_method_81_code
def yX6_what : MethodName := ⟨RX6, "what", "(I)I"⟩
abbrev cX6_tries : ByteArray := prog_8_method_82_code
def yX6_tries : MethodName := ⟨RX6, "tries", "(I)I"⟩
abbrev cX6_stays : ByteArray := prog_8_method_83_code
def yX6_stays : MethodName := ⟨RX6, "stays", "(III)Z"⟩
abbrev cX6_two : ByteArray := prog_8_method_84_code
def yX6_two : MethodName := ⟨RX6, "two", "(III)I"⟩
abbrev cX6_fraction : ByteArray := prog_8_method_85_code
def yX6_fraction : MethodName := ⟨RX6, "fraction", "(JJ)V"⟩
abbrev cX6_left : ByteArray := prog_8_method_86_code
def yX6_left : MethodName := ⟨RX6, "left", "(III)I"⟩
abbrev cX6_years : ByteArray := prog_8_method_87_code
def yX6_years : MethodName := ⟨RX6, "years", "(II)I"⟩
abbrev cX6_part : ByteArray := prog_8_method_88_code
def yX6_part : MethodName := ⟨RX6, "part", "(I)J"⟩
abbrev cX6_image : ByteArray := prog_8_method_89_code
def yX6_image : MethodName := ⟨RX6, "image", "(I)I"⟩
abbrev cX6_from : ByteArray := prog_8_method_90_code
def yX6_from : MethodName := ⟨RX6, "from", "(I)I"⟩
abbrev cX6_status : ByteArray := prog_8_method_91_code
def yX6_status : MethodName := ⟨RX6, "status", "(I)I"⟩
abbrev cX6_sum : ByteArray := prog_8_method_92_code
def yX6_sum : MethodName := ⟨RX6, "sum", "(II)I"⟩
abbrev cX6_whoSit : ByteArray := prog_8_method_93_code
def yX6_whoSit : MethodName := ⟨RX6, "whoSit", "()I"⟩
abbrev cX6_counted : ByteArray := prog_8_method_94_code
def yX6_counted : MethodName := ⟨RX6, "counted", "(I)I"⟩
abbrev cX6_count : ByteArray := prog_8_method_95_code
def yX6_count : MethodName := ⟨RX6, "count", "(I)I"⟩
abbrev cX6_digests : ByteArray := prog_8_method_96_code
def yX6_digests : MethodName := ⟨RX6, "digests", "(II)V"⟩
abbrev cX6_digest : ByteArray := prog_8_method_97_code
def yX6_digest : MethodName := ⟨RX6, "digest", "()J"⟩
def RJ9 : String := "java/lang/Math"
abbrev cJ9_max_7cf53 : ByteArray := prog_9_method_65_code
def yJ9_max_7cf53 : MethodName := ⟨RJ9, "max", "(II)I"⟩
abbrev cJ9_min_7cf53 : ByteArray := prog_9_method_69_code
def yJ9_min_7cf53 : MethodName := ⟨RJ9, "min", "(II)I"⟩
def RJ0 : String := "java/lang/String"
abbrev cJ0_length_8abf5 : ByteArray := prog_10_method_54_code
def yJ0_length_8abf5 : MethodName := ⟨RJ0, "length", "()I"⟩
abbrev cJ0_charAt_5068e : ByteArray := prog_10_method_56_code
def yJ0_charAt_5068e : MethodName := ⟨RJ0, "charAt", "(I)C"⟩
abbrev cJ0_coder_7d493 : ByteArray := prog_10_method_152_code
def yJ0_coder_7d493 : MethodName := ⟨RJ0, "coder", "()B"⟩
abbrev cJ0_isLatin1_aae02 : ByteArray := prog_10_method_154_code
def yJ0_isLatin1_aae02 : MethodName := ⟨RJ0, "isLatin1", "()Z"⟩
abbrev cJ0_checkIndex_df160 : ByteArray := prog_10_method_155_code
def yJ0_checkIndex_df160 : MethodName := ⟨RJ0, "checkIndex", "(II)V"⟩
def RJ1 : String := "java/lang/StringLatin1"
abbrev cJ1_charAt_3b067 : ByteArray := prog_11_method_2_code
def yJ1_charAt_3b067 : MethodName := ⟨RJ1, "charAt", "([BI)C"⟩
def RJ2 : String := "java/lang/StringUTF16"
abbrev cJ2_getChar_3b067 : ByteArray := prog_12_method_5_code
def yJ2_getChar_3b067 : MethodName := ⟨RJ2, "getChar", "([BI)C"⟩
abbrev cJ2_length_9d52b : ByteArray := prog_12_method_6_code
def yJ2_length_9d52b : MethodName := ⟨RJ2, "length", "([B)I"⟩
abbrev cJ2_charAt_3b067 : ByteArray := prog_12_method_83_code
def yJ2_charAt_3b067 : MethodName := ⟨RJ2, "charAt", "([BI)C"⟩
abbrev cJ2_checkIndex_2214a : ByteArray := prog_12_method_91_code
def yJ2_checkIndex_2214a : MethodName := ⟨RJ2, "checkIndex", "(I[B)V"⟩
def RJ10 : String := "java/lang/System"
def RJ7 : String := "java/util/Arrays"
abbrev cJ7_fill_53178 : ByteArray := prog_14_method_103_code
def yJ7_fill_53178 : MethodName := ⟨RJ7, "fill", "([II)V"⟩
def RJ3 : String := "jdk/internal/util/Preconditions"
abbrev cJ3_checkIndex_8e157 : ByteArray := prog_15_method_11_code
def yJ3_checkIndex_8e157 : MethodName := ⟨RJ3, "checkIndex", "(IILjava/util/function/BiFunction;)I"⟩
def RL : String := "SeatSceneLaw"
abbrev cL_law : ByteArray := code
abbrev vwCl : List vw_C := [(RX0, TX0, 13), (RX1, TX1, 3), (RX2, TX2, 4), (RX3, TX3, 7), (RX4, TX4, 8), (RX5, TX5, 14), (RX6, TX6, 24)]
end
section
theorem dX0_init_0 : decode cX0_init 0 = .ok (.aload_n 0, 1) := by decide +kernel
theorem dX0_init_1 : decode cX0_init 1 = .ok (.invokespecial 3, 3) := by decide +kernel
theorem dX0_init_4 : decode cX0_init 4 = .ok (.aload_n 0, 1) := by decide +kernel
theorem dX0_init_5 : decode cX0_init 5 = .ok (.bipush 7, 2) := by decide +kernel
theorem dX0_init_7 : decode cX0_init 7 = .ok (.newarray .int, 2) := by decide +kernel
theorem dX0_init_9 : decode cX0_init 9 = .ok (.putfield 9, 3) := by decide +kernel
theorem dX0_init_12 : decode cX0_init 12 = .ok (.aload_n 0, 1) := by decide +kernel
theorem dX0_init_13 : decode cX0_init 13 = .ok (.bipush 7, 2) := by decide +kernel
theorem dX0_init_15 : decode cX0_init 15 = .ok (.newarray .int, 2) := by decide +kernel
theorem dX0_init_17 : decode cX0_init 17 = .ok (.putfield 15, 3) := by decide +kernel
theorem dX0_init_20 : decode cX0_init 20 = .ok (.aload_n 0, 1) := by decide +kernel
theorem dX0_init_21 : decode cX0_init 21 = .ok (.iconst 5, 1) := by decide +kernel
theorem dX0_init_22 : decode cX0_init 22 = .ok (.newarray .int, 2) := by decide +kernel
theorem dX0_init_24 : decode cX0_init 24 = .ok (.putfield 18, 3) := by decide +kernel
theorem dX0_init_27 : decode cX0_init 27 = .ok (.aload_n 0, 1) := by decide +kernel
theorem dX0_init_28 : decode cX0_init 28 = .ok (.iconst 5, 1) := by decide +kernel
theorem dX0_init_29 : decode cX0_init 29 = .ok (.newarray .int, 2) := by decide +kernel
theorem dX0_init_31 : decode cX0_init 31 = .ok (.putfield 21, 3) := by decide +kernel
theorem dX0_init_34 : decode cX0_init 34 = .ok (.aload_n 0, 1) := by decide +kernel
theorem dX0_init_35 : decode cX0_init 35 = .ok (.iconst 5, 1) := by decide +kernel
theorem dX0_init_36 : decode cX0_init 36 = .ok (.newarray .int, 2) := by decide +kernel
theorem dX0_init_38 : decode cX0_init 38 = .ok (.putfield 24, 3) := by decide +kernel
theorem dX0_init_41 : decode cX0_init 41 = .ok (.aload_n 0, 1) := by decide +kernel
theorem dX0_init_42 : decode cX0_init 42 = .ok (.new 27, 3) := by decide +kernel
theorem dX0_init_45 : decode cX0_init 45 = .ok (.dup, 1) := by decide +kernel
theorem dX0_init_46 : decode cX0_init 46 = .ok (.invokespecial 29, 3) := by decide +kernel
theorem dX0_init_49 : decode cX0_init 49 = .ok (.putfield 30, 3) := by decide +kernel
theorem dX0_init_52 : decode cX0_init 52 = .ok (.aload_n 0, 1) := by decide +kernel
theorem dX0_init_53 : decode cX0_init 53 = .ok (.bipush 8, 2) := by decide +kernel
theorem dX0_init_55 : decode cX0_init 55 = .ok (.anewarray 27, 3) := by decide +kernel
theorem dX0_init_58 : decode cX0_init 58 = .ok (.putfield 34, 3) := by decide +kernel
theorem dX0_init_61 : decode cX0_init 61 = .ok (.aload_n 0, 1) := by decide +kernel
theorem dX0_init_62 : decode cX0_init 62 = .ok (.new 38, 3) := by decide +kernel
theorem dX0_init_65 : decode cX0_init 65 = .ok (.dup, 1) := by decide +kernel
theorem dX0_init_66 : decode cX0_init 66 = .ok (.iconst 3, 1) := by decide +kernel
theorem dX0_init_67 : decode cX0_init 67 = .ok (.invokespecial 40, 3) := by decide +kernel
theorem dX0_init_70 : decode cX0_init 70 = .ok (.putfield 43, 3) := by decide +kernel
theorem dX0_init_73 : decode cX0_init 73 = .ok (.aload_n 0, 1) := by decide +kernel
theorem dX0_init_74 : decode cX0_init 74 = .ok (.new 38, 3) := by decide +kernel
theorem dX0_init_77 : decode cX0_init 77 = .ok (.dup, 1) := by decide +kernel
theorem dX0_init_78 : decode cX0_init 78 = .ok (.iconst 5, 1) := by decide +kernel
theorem dX0_init_79 : decode cX0_init 79 = .ok (.invokespecial 40, 3) := by decide +kernel
theorem dX0_init_82 : decode cX0_init 82 = .ok (.putfield 47, 3) := by decide +kernel
theorem dX0_init_85 : decode cX0_init 85 = .ok (.aload_n 0, 1) := by decide +kernel
theorem dX0_init_86 : decode cX0_init 86 = .ok (.new 38, 3) := by decide +kernel
theorem dX0_init_89 : decode cX0_init 89 = .ok (.dup, 1) := by decide +kernel
theorem dX0_init_90 : decode cX0_init 90 = .ok (.iconst 4, 1) := by decide +kernel
theorem dX0_init_91 : decode cX0_init 91 = .ok (.invokespecial 40, 3) := by decide +kernel
theorem dX0_init_94 : decode cX0_init 94 = .ok (.putfield 50, 3) := by decide +kernel
theorem dX0_init_97 : decode cX0_init 97 = .ok (.iconst 0, 1) := by decide +kernel
theorem dX0_init_98 : decode cX0_init 98 = .ok (.istore_n 1, 1) := by decide +kernel
theorem dX0_init_99 : decode cX0_init 99 = .ok (.iload_n 1, 1) := by decide +kernel
theorem dX0_init_100 : decode cX0_init 100 = .ok (.bipush 8, 2) := by decide +kernel
theorem dX0_init_102 : decode cX0_init 102 = .ok (.if_icmp .ge 22, 3) := by decide +kernel
theorem dX0_init_105 : decode cX0_init 105 = .ok (.aload_n 0, 1) := by decide +kernel
theorem dX0_init_106 : decode cX0_init 106 = .ok (.getfield 34, 3) := by decide +kernel
theorem dX0_init_109 : decode cX0_init 109 = .ok (.iload_n 1, 1) := by decide +kernel
theorem dX0_init_110 : decode cX0_init 110 = .ok (.new 27, 3) := by decide +kernel
theorem dX0_init_113 : decode cX0_init 113 = .ok (.dup, 1) := by decide +kernel
theorem dX0_init_114 : decode cX0_init 114 = .ok (.invokespecial 29, 3) := by decide +kernel
theorem dX0_init_117 : decode cX0_init 117 = .ok (.aastore, 1) := by decide +kernel
theorem dX0_init_118 : decode cX0_init 118 = .ok (.iinc 1 1, 3) := by decide +kernel
theorem dX0_init_121 : decode cX0_init 121 = .ok (.goto (-22), 3) := by decide +kernel
theorem dX0_init_124 : decode cX0_init 124 = .ok (.return_, 1) := by decide +kernel
theorem dX0_empty_0 : decode cX0_empty 0 = .ok (.aload_n 0, 1) := by decide +kernel
theorem dX0_empty_1 : decode cX0_empty 1 = .ok (.iconst 0, 1) := by decide +kernel
theorem dX0_empty_2 : decode cX0_empty 2 = .ok (.putfield 53, 3) := by decide +kernel
theorem dX0_empty_5 : decode cX0_empty 5 = .ok (.aload_n 0, 1) := by decide +kernel
theorem dX0_empty_6 : decode cX0_empty 6 = .ok (.iconst 0, 1) := by decide +kernel
theorem dX0_empty_7 : decode cX0_empty 7 = .ok (.putfield 57, 3) := by decide +kernel
theorem dX0_empty_10 : decode cX0_empty 10 = .ok (.aload_n 0, 1) := by decide +kernel
theorem dX0_empty_11 : decode cX0_empty 11 = .ok (.iconst 0, 1) := by decide +kernel
theorem dX0_empty_12 : decode cX0_empty 12 = .ok (.putfield 60, 3) := by decide +kernel
theorem dX0_empty_15 : decode cX0_empty 15 = .ok (.aload_n 0, 1) := by decide +kernel
theorem dX0_empty_16 : decode cX0_empty 16 = .ok (.getfield 30, 3) := by decide +kernel
theorem dX0_empty_19 : decode cX0_empty 19 = .ok (.invokevirtual 63, 3) := by decide +kernel
theorem dX0_empty_22 : decode cX0_empty 22 = .ok (.aload_n 0, 1) := by decide +kernel
theorem dX0_empty_23 : decode cX0_empty 23 = .ok (.getfield 43, 3) := by decide +kernel
theorem dX0_empty_26 : decode cX0_empty 26 = .ok (.iconst 0, 1) := by decide +kernel
theorem dX0_empty_27 : decode cX0_empty 27 = .ok (.putfield 66, 3) := by decide +kernel
theorem dX0_empty_30 : decode cX0_empty 30 = .ok (.aload_n 0, 1) := by decide +kernel
theorem dX0_empty_31 : decode cX0_empty 31 = .ok (.getfield 47, 3) := by decide +kernel
theorem dX0_empty_34 : decode cX0_empty 34 = .ok (.iconst 0, 1) := by decide +kernel
theorem dX0_empty_35 : decode cX0_empty 35 = .ok (.putfield 66, 3) := by decide +kernel
theorem dX0_empty_38 : decode cX0_empty 38 = .ok (.aload_n 0, 1) := by decide +kernel
theorem dX0_empty_39 : decode cX0_empty 39 = .ok (.getfield 50, 3) := by decide +kernel
theorem dX0_empty_42 : decode cX0_empty 42 = .ok (.iconst 0, 1) := by decide +kernel
theorem dX0_empty_43 : decode cX0_empty 43 = .ok (.putfield 66, 3) := by decide +kernel
theorem dX0_empty_46 : decode cX0_empty 46 = .ok (.return_, 1) := by decide +kernel
theorem dX0_become_0 : decode cX0_become 0 = .ok (.aload_n 0, 1) := by decide +kernel
theorem dX0_become_1 : decode cX0_become 1 = .ok (.aload_n 1, 1) := by decide +kernel
theorem dX0_become_2 : decode cX0_become 2 = .ok (.getfield 53, 3) := by decide +kernel
theorem dX0_become_5 : decode cX0_become 5 = .ok (.putfield 53, 3) := by decide +kernel
theorem dX0_become_8 : decode cX0_become 8 = .ok (.aload_n 0, 1) := by decide +kernel
theorem dX0_become_9 : decode cX0_become 9 = .ok (.aload_n 1, 1) := by decide +kernel
theorem dX0_become_10 : decode cX0_become 10 = .ok (.getfield 57, 3) := by decide +kernel
theorem dX0_become_13 : decode cX0_become 13 = .ok (.putfield 57, 3) := by decide +kernel
theorem dX0_become_16 : decode cX0_become 16 = .ok (.aload_n 0, 1) := by decide +kernel
theorem dX0_become_17 : decode cX0_become 17 = .ok (.aload_n 1, 1) := by decide +kernel
theorem dX0_become_18 : decode cX0_become 18 = .ok (.getfield 60, 3) := by decide +kernel
theorem dX0_become_21 : decode cX0_become 21 = .ok (.putfield 60, 3) := by decide +kernel
theorem dX0_become_24 : decode cX0_become 24 = .ok (.aload_n 1, 1) := by decide +kernel
theorem dX0_become_25 : decode cX0_become 25 = .ok (.getfield 9, 3) := by decide +kernel
theorem dX0_become_28 : decode cX0_become 28 = .ok (.iconst 0, 1) := by decide +kernel
theorem dX0_become_29 : decode cX0_become 29 = .ok (.aload_n 0, 1) := by decide +kernel
theorem dX0_become_30 : decode cX0_become 30 = .ok (.getfield 9, 3) := by decide +kernel
theorem dX0_become_33 : decode cX0_become 33 = .ok (.iconst 0, 1) := by decide +kernel
theorem dX0_become_34 : decode cX0_become 34 = .ok (.bipush 7, 2) := by decide +kernel
theorem dX0_become_36 : decode cX0_become 36 = .ok (.invokestatic 69, 3) := by decide +kernel
theorem dX0_become_39 : decode cX0_become 39 = .ok (.aload_n 1, 1) := by decide +kernel
theorem dX0_become_40 : decode cX0_become 40 = .ok (.getfield 15, 3) := by decide +kernel
theorem dX0_become_43 : decode cX0_become 43 = .ok (.iconst 0, 1) := by decide +kernel
theorem dX0_become_44 : decode cX0_become 44 = .ok (.aload_n 0, 1) := by decide +kernel
theorem dX0_become_45 : decode cX0_become 45 = .ok (.getfield 15, 3) := by decide +kernel
theorem dX0_become_48 : decode cX0_become 48 = .ok (.iconst 0, 1) := by decide +kernel
theorem dX0_become_49 : decode cX0_become 49 = .ok (.bipush 7, 2) := by decide +kernel
theorem dX0_become_51 : decode cX0_become 51 = .ok (.invokestatic 69, 3) := by decide +kernel
theorem dX0_become_54 : decode cX0_become 54 = .ok (.aload_n 1, 1) := by decide +kernel
theorem dX0_become_55 : decode cX0_become 55 = .ok (.getfield 18, 3) := by decide +kernel
theorem dX0_become_58 : decode cX0_become 58 = .ok (.iconst 0, 1) := by decide +kernel
theorem dX0_become_59 : decode cX0_become 59 = .ok (.aload_n 0, 1) := by decide +kernel
theorem dX0_become_60 : decode cX0_become 60 = .ok (.getfield 18, 3) := by decide +kernel
theorem dX0_become_63 : decode cX0_become 63 = .ok (.iconst 0, 1) := by decide +kernel
theorem dX0_become_64 : decode cX0_become 64 = .ok (.iconst 5, 1) := by decide +kernel
theorem dX0_become_65 : decode cX0_become 65 = .ok (.invokestatic 69, 3) := by decide +kernel
theorem dX0_become_68 : decode cX0_become 68 = .ok (.aload_n 1, 1) := by decide +kernel
theorem dX0_become_69 : decode cX0_become 69 = .ok (.getfield 21, 3) := by decide +kernel
theorem dX0_become_72 : decode cX0_become 72 = .ok (.iconst 0, 1) := by decide +kernel
theorem dX0_become_73 : decode cX0_become 73 = .ok (.aload_n 0, 1) := by decide +kernel
theorem dX0_become_74 : decode cX0_become 74 = .ok (.getfield 21, 3) := by decide +kernel
theorem dX0_become_77 : decode cX0_become 77 = .ok (.iconst 0, 1) := by decide +kernel
theorem dX0_become_78 : decode cX0_become 78 = .ok (.iconst 5, 1) := by decide +kernel
theorem dX0_become_79 : decode cX0_become 79 = .ok (.invokestatic 69, 3) := by decide +kernel
theorem dX0_become_82 : decode cX0_become 82 = .ok (.aload_n 1, 1) := by decide +kernel
theorem dX0_become_83 : decode cX0_become 83 = .ok (.getfield 24, 3) := by decide +kernel
theorem dX0_become_86 : decode cX0_become 86 = .ok (.iconst 0, 1) := by decide +kernel
theorem dX0_become_87 : decode cX0_become 87 = .ok (.aload_n 0, 1) := by decide +kernel
theorem dX0_become_88 : decode cX0_become 88 = .ok (.getfield 24, 3) := by decide +kernel
theorem dX0_become_91 : decode cX0_become 91 = .ok (.iconst 0, 1) := by decide +kernel
theorem dX0_become_92 : decode cX0_become 92 = .ok (.iconst 5, 1) := by decide +kernel
theorem dX0_become_93 : decode cX0_become 93 = .ok (.invokestatic 69, 3) := by decide +kernel
theorem dX0_become_96 : decode cX0_become 96 = .ok (.aload_n 0, 1) := by decide +kernel
theorem dX0_become_97 : decode cX0_become 97 = .ok (.getfield 30, 3) := by decide +kernel
theorem dX0_become_100 : decode cX0_become 100 = .ok (.aload_n 1, 1) := by decide +kernel
theorem dX0_become_101 : decode cX0_become 101 = .ok (.getfield 30, 3) := by decide +kernel
theorem dX0_become_104 : decode cX0_become 104 = .ok (.invokevirtual 75, 3) := by decide +kernel
theorem dX0_become_107 : decode cX0_become 107 = .ok (.iconst 0, 1) := by decide +kernel
theorem dX0_become_108 : decode cX0_become 108 = .ok (.istore_n 2, 1) := by decide +kernel
theorem dX0_become_109 : decode cX0_become 109 = .ok (.iload_n 2, 1) := by decide +kernel
theorem dX0_become_110 : decode cX0_become 110 = .ok (.aload_n 0, 1) := by decide +kernel
theorem dX0_become_111 : decode cX0_become 111 = .ok (.getfield 60, 3) := by decide +kernel
theorem dX0_become_114 : decode cX0_become 114 = .ok (.if_icmp .ge 24, 3) := by decide +kernel
theorem dX0_become_117 : decode cX0_become 117 = .ok (.aload_n 0, 1) := by decide +kernel
theorem dX0_become_118 : decode cX0_become 118 = .ok (.getfield 34, 3) := by decide +kernel
theorem dX0_become_121 : decode cX0_become 121 = .ok (.iload_n 2, 1) := by decide +kernel
theorem dX0_become_122 : decode cX0_become 122 = .ok (.aaload, 1) := by decide +kernel
theorem dX0_become_123 : decode cX0_become 123 = .ok (.aload_n 1, 1) := by decide +kernel
theorem dX0_become_124 : decode cX0_become 124 = .ok (.getfield 34, 3) := by decide +kernel
theorem dX0_become_127 : decode cX0_become 127 = .ok (.iload_n 2, 1) := by decide +kernel
theorem dX0_become_128 : decode cX0_become 128 = .ok (.aaload, 1) := by decide +kernel
theorem dX0_become_129 : decode cX0_become 129 = .ok (.invokevirtual 75, 3) := by decide +kernel
theorem dX0_become_132 : decode cX0_become 132 = .ok (.iinc 2 1, 3) := by decide +kernel
theorem dX0_become_135 : decode cX0_become 135 = .ok (.goto (-26), 3) := by decide +kernel
theorem dX0_become_138 : decode cX0_become 138 = .ok (.aload_n 0, 1) := by decide +kernel
theorem dX0_become_139 : decode cX0_become 139 = .ok (.getfield 43, 3) := by decide +kernel
theorem dX0_become_142 : decode cX0_become 142 = .ok (.aload_n 1, 1) := by decide +kernel
theorem dX0_become_143 : decode cX0_become 143 = .ok (.getfield 43, 3) := by decide +kernel
theorem dX0_become_146 : decode cX0_become 146 = .ok (.invokevirtual 79, 3) := by decide +kernel
theorem dX0_become_149 : decode cX0_become 149 = .ok (.aload_n 0, 1) := by decide +kernel
theorem dX0_become_150 : decode cX0_become 150 = .ok (.getfield 47, 3) := by decide +kernel
theorem dX0_become_153 : decode cX0_become 153 = .ok (.aload_n 1, 1) := by decide +kernel
theorem dX0_become_154 : decode cX0_become 154 = .ok (.getfield 47, 3) := by decide +kernel
theorem dX0_become_157 : decode cX0_become 157 = .ok (.invokevirtual 79, 3) := by decide +kernel
theorem dX0_become_160 : decode cX0_become 160 = .ok (.aload_n 0, 1) := by decide +kernel
theorem dX0_become_161 : decode cX0_become 161 = .ok (.getfield 50, 3) := by decide +kernel
theorem dX0_become_164 : decode cX0_become 164 = .ok (.aload_n 1, 1) := by decide +kernel
theorem dX0_become_165 : decode cX0_become 165 = .ok (.getfield 50, 3) := by decide +kernel
theorem dX0_become_168 : decode cX0_become 168 = .ok (.invokevirtual 79, 3) := by decide +kernel
theorem dX0_become_171 : decode cX0_become 171 = .ok (.return_, 1) := by decide +kernel
theorem dX0_addSeat_0 : decode cX0_addSeat 0 = .ok (.aload_n 0, 1) := by decide +kernel
theorem dX0_addSeat_1 : decode cX0_addSeat 1 = .ok (.getfield 9, 3) := by decide +kernel
theorem dX0_addSeat_4 : decode cX0_addSeat 4 = .ok (.aload_n 0, 1) := by decide +kernel
theorem dX0_addSeat_5 : decode cX0_addSeat 5 = .ok (.getfield 53, 3) := by decide +kernel
theorem dX0_addSeat_8 : decode cX0_addSeat 8 = .ok (.iload_n 1, 1) := by decide +kernel
theorem dX0_addSeat_9 : decode cX0_addSeat 9 = .ok (.iastore, 1) := by decide +kernel
theorem dX0_addSeat_10 : decode cX0_addSeat 10 = .ok (.aload_n 0, 1) := by decide +kernel
theorem dX0_addSeat_11 : decode cX0_addSeat 11 = .ok (.getfield 15, 3) := by decide +kernel
theorem dX0_addSeat_14 : decode cX0_addSeat 14 = .ok (.aload_n 0, 1) := by decide +kernel
theorem dX0_addSeat_15 : decode cX0_addSeat 15 = .ok (.getfield 53, 3) := by decide +kernel
theorem dX0_addSeat_18 : decode cX0_addSeat 18 = .ok (.iload_n 2, 1) := by decide +kernel
theorem dX0_addSeat_19 : decode cX0_addSeat 19 = .ok (.iastore, 1) := by decide +kernel
theorem dX0_addSeat_20 : decode cX0_addSeat 20 = .ok (.aload_n 0, 1) := by decide +kernel
theorem dX0_addSeat_21 : decode cX0_addSeat 21 = .ok (.getfield 30, 3) := by decide +kernel
theorem dX0_addSeat_24 : decode cX0_addSeat 24 = .ok (.getfield 82, 3) := by decide +kernel
theorem dX0_addSeat_27 : decode cX0_addSeat 27 = .ok (.aload_n 0, 1) := by decide +kernel
theorem dX0_addSeat_28 : decode cX0_addSeat 28 = .ok (.getfield 53, 3) := by decide +kernel
theorem dX0_addSeat_31 : decode cX0_addSeat 31 = .ok (.iload_n 3, 1) := by decide +kernel
theorem dX0_addSeat_32 : decode cX0_addSeat 32 = .ok (.iastore, 1) := by decide +kernel
theorem dX0_addSeat_33 : decode cX0_addSeat 33 = .ok (.aload_n 0, 1) := by decide +kernel
theorem dX0_addSeat_34 : decode cX0_addSeat 34 = .ok (.iconst 0, 1) := by decide +kernel
theorem dX0_addSeat_35 : decode cX0_addSeat 35 = .ok (.putfield 60, 3) := by decide +kernel
theorem dX0_addSeat_38 : decode cX0_addSeat 38 = .ok (.aload_n 0, 1) := by decide +kernel
theorem dX0_addSeat_39 : decode cX0_addSeat 39 = .ok (.dup, 1) := by decide +kernel
theorem dX0_addSeat_40 : decode cX0_addSeat 40 = .ok (.getfield 53, 3) := by decide +kernel
theorem dX0_addSeat_43 : decode cX0_addSeat 43 = .ok (.iconst 1, 1) := by decide +kernel
theorem dX0_addSeat_44 : decode cX0_addSeat 44 = .ok (.iadd, 1) := by decide +kernel
theorem dX0_addSeat_45 : decode cX0_addSeat 45 = .ok (.putfield 53, 3) := by decide +kernel
theorem dX0_addSeat_48 : decode cX0_addSeat 48 = .ok (.aload_n 0, 1) := by decide +kernel
theorem dX0_addSeat_49 : decode cX0_addSeat 49 = .ok (.getfield 53, 3) := by decide +kernel
theorem dX0_addSeat_52 : decode cX0_addSeat 52 = .ok (.iconst 1, 1) := by decide +kernel
theorem dX0_addSeat_53 : decode cX0_addSeat 53 = .ok (.isub, 1) := by decide +kernel
theorem dX0_addSeat_54 : decode cX0_addSeat 54 = .ok (.ireturn, 1) := by decide +kernel
theorem dX0_addCanon_0 : decode cX0_addCanon 0 = .ok (.aload_n 0, 1) := by decide +kernel
theorem dX0_addCanon_1 : decode cX0_addCanon 1 = .ok (.getfield 18, 3) := by decide +kernel
theorem dX0_addCanon_4 : decode cX0_addCanon 4 = .ok (.aload_n 0, 1) := by decide +kernel
theorem dX0_addCanon_5 : decode cX0_addCanon 5 = .ok (.getfield 57, 3) := by decide +kernel
theorem dX0_addCanon_8 : decode cX0_addCanon 8 = .ok (.iload_n 1, 1) := by decide +kernel
theorem dX0_addCanon_9 : decode cX0_addCanon 9 = .ok (.iastore, 1) := by decide +kernel
theorem dX0_addCanon_10 : decode cX0_addCanon 10 = .ok (.aload_n 0, 1) := by decide +kernel
theorem dX0_addCanon_11 : decode cX0_addCanon 11 = .ok (.getfield 21, 3) := by decide +kernel
theorem dX0_addCanon_14 : decode cX0_addCanon 14 = .ok (.aload_n 0, 1) := by decide +kernel
theorem dX0_addCanon_15 : decode cX0_addCanon 15 = .ok (.getfield 57, 3) := by decide +kernel
theorem dX0_addCanon_18 : decode cX0_addCanon 18 = .ok (.iload_n 2, 1) := by decide +kernel
theorem dX0_addCanon_19 : decode cX0_addCanon 19 = .ok (.iastore, 1) := by decide +kernel
theorem dX0_addCanon_20 : decode cX0_addCanon 20 = .ok (.aload_n 0, 1) := by decide +kernel
theorem dX0_addCanon_21 : decode cX0_addCanon 21 = .ok (.getfield 24, 3) := by decide +kernel
theorem dX0_addCanon_24 : decode cX0_addCanon 24 = .ok (.aload_n 0, 1) := by decide +kernel
theorem dX0_addCanon_25 : decode cX0_addCanon 25 = .ok (.getfield 57, 3) := by decide +kernel
theorem dX0_addCanon_28 : decode cX0_addCanon 28 = .ok (.iload_n 1, 1) := by decide +kernel
theorem dX0_addCanon_29 : decode cX0_addCanon 29 = .ok (.iload_n 2, 1) := by decide +kernel
theorem dX0_addCanon_30 : decode cX0_addCanon 30 = .ok (.invokestatic 85, 3) := by decide +kernel
theorem dX0_addCanon_33 : decode cX0_addCanon 33 = .ok (.iastore, 1) := by decide +kernel
theorem dX0_addCanon_34 : decode cX0_addCanon 34 = .ok (.aload_n 0, 1) := by decide +kernel
theorem dX0_addCanon_35 : decode cX0_addCanon 35 = .ok (.iconst 0, 1) := by decide +kernel
theorem dX0_addCanon_36 : decode cX0_addCanon 36 = .ok (.putfield 60, 3) := by decide +kernel
theorem dX0_addCanon_39 : decode cX0_addCanon 39 = .ok (.aload_n 0, 1) := by decide +kernel
theorem dX0_addCanon_40 : decode cX0_addCanon 40 = .ok (.dup, 1) := by decide +kernel
theorem dX0_addCanon_41 : decode cX0_addCanon 41 = .ok (.getfield 57, 3) := by decide +kernel
theorem dX0_addCanon_44 : decode cX0_addCanon 44 = .ok (.iconst 1, 1) := by decide +kernel
theorem dX0_addCanon_45 : decode cX0_addCanon 45 = .ok (.iadd, 1) := by decide +kernel
theorem dX0_addCanon_46 : decode cX0_addCanon 46 = .ok (.putfield 57, 3) := by decide +kernel
theorem dX0_addCanon_49 : decode cX0_addCanon 49 = .ok (.aload_n 0, 1) := by decide +kernel
theorem dX0_addCanon_50 : decode cX0_addCanon 50 = .ok (.getfield 57, 3) := by decide +kernel
theorem dX0_addCanon_53 : decode cX0_addCanon 53 = .ok (.iconst 1, 1) := by decide +kernel
theorem dX0_addCanon_54 : decode cX0_addCanon 54 = .ok (.isub, 1) := by decide +kernel
theorem dX0_addCanon_55 : decode cX0_addCanon 55 = .ok (.ireturn, 1) := by decide +kernel
theorem dX0_keepPast_0 : decode cX0_keepPast 0 = .ok (.aload_n 0, 1) := by decide +kernel
theorem dX0_keepPast_1 : decode cX0_keepPast 1 = .ok (.getfield 60, 3) := by decide +kernel
theorem dX0_keepPast_4 : decode cX0_keepPast 4 = .ok (.bipush 8, 2) := by decide +kernel
theorem dX0_keepPast_6 : decode cX0_keepPast 6 = .ok (.if_icmp .lt 52, 3) := by decide +kernel
theorem dX0_keepPast_9 : decode cX0_keepPast 9 = .ok (.aload_n 0, 1) := by decide +kernel
theorem dX0_keepPast_10 : decode cX0_keepPast 10 = .ok (.getfield 34, 3) := by decide +kernel
theorem dX0_keepPast_13 : decode cX0_keepPast 13 = .ok (.iconst 0, 1) := by decide +kernel
theorem dX0_keepPast_14 : decode cX0_keepPast 14 = .ok (.aaload, 1) := by decide +kernel
theorem dX0_keepPast_15 : decode cX0_keepPast 15 = .ok (.astore_n 1, 1) := by decide +kernel
theorem dX0_keepPast_16 : decode cX0_keepPast 16 = .ok (.iconst 1, 1) := by decide +kernel
theorem dX0_keepPast_17 : decode cX0_keepPast 17 = .ok (.istore_n 2, 1) := by decide +kernel
theorem dX0_keepPast_18 : decode cX0_keepPast 18 = .ok (.iload_n 2, 1) := by decide +kernel
theorem dX0_keepPast_19 : decode cX0_keepPast 19 = .ok (.bipush 8, 2) := by decide +kernel
theorem dX0_keepPast_21 : decode cX0_keepPast 21 = .ok (.if_icmp .ge 23, 3) := by decide +kernel
theorem dX0_keepPast_24 : decode cX0_keepPast 24 = .ok (.aload_n 0, 1) := by decide +kernel
theorem dX0_keepPast_25 : decode cX0_keepPast 25 = .ok (.getfield 34, 3) := by decide +kernel
theorem dX0_keepPast_28 : decode cX0_keepPast 28 = .ok (.iload_n 2, 1) := by decide +kernel
theorem dX0_keepPast_29 : decode cX0_keepPast 29 = .ok (.iconst 1, 1) := by decide +kernel
theorem dX0_keepPast_30 : decode cX0_keepPast 30 = .ok (.isub, 1) := by decide +kernel
theorem dX0_keepPast_31 : decode cX0_keepPast 31 = .ok (.aload_n 0, 1) := by decide +kernel
theorem dX0_keepPast_32 : decode cX0_keepPast 32 = .ok (.getfield 34, 3) := by decide +kernel
theorem dX0_keepPast_35 : decode cX0_keepPast 35 = .ok (.iload_n 2, 1) := by decide +kernel
theorem dX0_keepPast_36 : decode cX0_keepPast 36 = .ok (.aaload, 1) := by decide +kernel
theorem dX0_keepPast_37 : decode cX0_keepPast 37 = .ok (.aastore, 1) := by decide +kernel
theorem dX0_keepPast_38 : decode cX0_keepPast 38 = .ok (.iinc 2 1, 3) := by decide +kernel
theorem dX0_keepPast_41 : decode cX0_keepPast 41 = .ok (.goto (-23), 3) := by decide +kernel
theorem dX0_keepPast_44 : decode cX0_keepPast 44 = .ok (.aload_n 0, 1) := by decide +kernel
theorem dX0_keepPast_45 : decode cX0_keepPast 45 = .ok (.getfield 34, 3) := by decide +kernel
theorem dX0_keepPast_48 : decode cX0_keepPast 48 = .ok (.bipush 7, 2) := by decide +kernel
theorem dX0_keepPast_50 : decode cX0_keepPast 50 = .ok (.aload_n 1, 1) := by decide +kernel
theorem dX0_keepPast_51 : decode cX0_keepPast 51 = .ok (.aastore, 1) := by decide +kernel
theorem dX0_keepPast_52 : decode cX0_keepPast 52 = .ok (.aload_n 0, 1) := by decide +kernel
theorem dX0_keepPast_53 : decode cX0_keepPast 53 = .ok (.bipush 7, 2) := by decide +kernel
theorem dX0_keepPast_55 : decode cX0_keepPast 55 = .ok (.putfield 60, 3) := by decide +kernel
theorem dX0_keepPast_58 : decode cX0_keepPast 58 = .ok (.aload_n 0, 1) := by decide +kernel
theorem dX0_keepPast_59 : decode cX0_keepPast 59 = .ok (.getfield 34, 3) := by decide +kernel
theorem dX0_keepPast_62 : decode cX0_keepPast 62 = .ok (.aload_n 0, 1) := by decide +kernel
theorem dX0_keepPast_63 : decode cX0_keepPast 63 = .ok (.getfield 60, 3) := by decide +kernel
theorem dX0_keepPast_66 : decode cX0_keepPast 66 = .ok (.aaload, 1) := by decide +kernel
theorem dX0_keepPast_67 : decode cX0_keepPast 67 = .ok (.aload_n 0, 1) := by decide +kernel
theorem dX0_keepPast_68 : decode cX0_keepPast 68 = .ok (.getfield 30, 3) := by decide +kernel
theorem dX0_keepPast_71 : decode cX0_keepPast 71 = .ok (.invokevirtual 75, 3) := by decide +kernel
theorem dX0_keepPast_74 : decode cX0_keepPast 74 = .ok (.aload_n 0, 1) := by decide +kernel
theorem dX0_keepPast_75 : decode cX0_keepPast 75 = .ok (.dup, 1) := by decide +kernel
theorem dX0_keepPast_76 : decode cX0_keepPast 76 = .ok (.getfield 60, 3) := by decide +kernel
theorem dX0_keepPast_79 : decode cX0_keepPast 79 = .ok (.iconst 1, 1) := by decide +kernel
theorem dX0_keepPast_80 : decode cX0_keepPast 80 = .ok (.iadd, 1) := by decide +kernel
theorem dX0_keepPast_81 : decode cX0_keepPast 81 = .ok (.putfield 60, 3) := by decide +kernel
theorem dX0_keepPast_84 : decode cX0_keepPast 84 = .ok (.return_, 1) := by decide +kernel
theorem dX0_goBack_0 : decode cX0_goBack 0 = .ok (.aload_n 0, 1) := by decide +kernel
theorem dX0_goBack_1 : decode cX0_goBack 1 = .ok (.dup, 1) := by decide +kernel
theorem dX0_goBack_2 : decode cX0_goBack 2 = .ok (.getfield 60, 3) := by decide +kernel
theorem dX0_goBack_5 : decode cX0_goBack 5 = .ok (.iconst 1, 1) := by decide +kernel
theorem dX0_goBack_6 : decode cX0_goBack 6 = .ok (.isub, 1) := by decide +kernel
theorem dX0_goBack_7 : decode cX0_goBack 7 = .ok (.putfield 60, 3) := by decide +kernel
theorem dX0_goBack_10 : decode cX0_goBack 10 = .ok (.aload_n 0, 1) := by decide +kernel
theorem dX0_goBack_11 : decode cX0_goBack 11 = .ok (.getfield 30, 3) := by decide +kernel
theorem dX0_goBack_14 : decode cX0_goBack 14 = .ok (.aload_n 0, 1) := by decide +kernel
theorem dX0_goBack_15 : decode cX0_goBack 15 = .ok (.getfield 34, 3) := by decide +kernel
theorem dX0_goBack_18 : decode cX0_goBack 18 = .ok (.aload_n 0, 1) := by decide +kernel
theorem dX0_goBack_19 : decode cX0_goBack 19 = .ok (.getfield 60, 3) := by decide +kernel
theorem dX0_goBack_22 : decode cX0_goBack 22 = .ok (.aaload, 1) := by decide +kernel
theorem dX0_goBack_23 : decode cX0_goBack 23 = .ok (.invokevirtual 75, 3) := by decide +kernel
theorem dX0_goBack_26 : decode cX0_goBack 26 = .ok (.return_, 1) := by decide +kernel
theorem dX0_wouldTake_0 : decode cX0_wouldTake 0 = .ok (.aload_n 1, 1) := by decide +kernel
theorem dX0_wouldTake_1 : decode cX0_wouldTake 1 = .ok (.iload_n 2, 1) := by decide +kernel
theorem dX0_wouldTake_2 : decode cX0_wouldTake 2 = .ok (.aload_n 0, 1) := by decide +kernel
theorem dX0_wouldTake_3 : decode cX0_wouldTake 3 = .ok (.getfield 15, 3) := by decide +kernel
theorem dX0_wouldTake_6 : decode cX0_wouldTake 6 = .ok (.iload_n 3, 1) := by decide +kernel
theorem dX0_wouldTake_7 : decode cX0_wouldTake 7 = .ok (.iaload, 1) := by decide +kernel
theorem dX0_wouldTake_8 : decode cX0_wouldTake 8 = .ok (.invokevirtual 89, 3) := by decide +kernel
theorem dX0_wouldTake_11 : decode cX0_wouldTake 11 = .ok (.istore 4, 2) := by decide +kernel
theorem dX0_wouldTake_13 : decode cX0_wouldTake 13 = .ok (.aload_n 0, 1) := by decide +kernel
theorem dX0_wouldTake_14 : decode cX0_wouldTake 14 = .ok (.getfield 18, 3) := by decide +kernel
theorem dX0_wouldTake_17 : decode cX0_wouldTake 17 = .ok (.iload_n 2, 1) := by decide +kernel
theorem dX0_wouldTake_18 : decode cX0_wouldTake 18 = .ok (.iaload, 1) := by decide +kernel
theorem dX0_wouldTake_19 : decode cX0_wouldTake 19 = .ok (.aload_n 0, 1) := by decide +kernel
theorem dX0_wouldTake_20 : decode cX0_wouldTake 20 = .ok (.getfield 9, 3) := by decide +kernel
theorem dX0_wouldTake_23 : decode cX0_wouldTake 23 = .ok (.iload_n 3, 1) := by decide +kernel
theorem dX0_wouldTake_24 : decode cX0_wouldTake 24 = .ok (.iaload, 1) := by decide +kernel
theorem dX0_wouldTake_25 : decode cX0_wouldTake 25 = .ok (.aload_n 1, 1) := by decide +kernel
theorem dX0_wouldTake_26 : decode cX0_wouldTake 26 = .ok (.getfield 82, 3) := by decide +kernel
theorem dX0_wouldTake_29 : decode cX0_wouldTake 29 = .ok (.iload_n 3, 1) := by decide +kernel
theorem dX0_wouldTake_30 : decode cX0_wouldTake 30 = .ok (.iaload, 1) := by decide +kernel
theorem dX0_wouldTake_31 : decode cX0_wouldTake 31 = .ok (.aload_n 1, 1) := by decide +kernel
theorem dX0_wouldTake_32 : decode cX0_wouldTake 32 = .ok (.getfield 92, 3) := by decide +kernel
theorem dX0_wouldTake_35 : decode cX0_wouldTake 35 = .ok (.iload 4, 2) := by decide +kernel
theorem dX0_wouldTake_37 : decode cX0_wouldTake 37 = .ok (.invokestatic 95, 3) := by decide +kernel
theorem dX0_wouldTake_40 : decode cX0_wouldTake 40 = .ok (.iload 4, 2) := by decide +kernel
theorem dX0_wouldTake_42 : decode cX0_wouldTake 42 = .ok (.invokestatic 99, 3) := by decide +kernel
theorem dX0_wouldTake_45 : decode cX0_wouldTake 45 = .ok (.ireturn, 1) := by decide +kernel
theorem dX0_passFor_0 : decode cX0_passFor 0 = .ok (.aload_n 1, 1) := by decide +kernel
theorem dX0_passFor_1 : decode cX0_passFor 1 = .ok (.getfield 103, 3) := by decide +kernel
theorem dX0_passFor_4 : decode cX0_passFor 4 = .ok (.iload_n 2, 1) := by decide +kernel
theorem dX0_passFor_5 : decode cX0_passFor 5 = .ok (.iaload, 1) := by decide +kernel
theorem dX0_passFor_6 : decode cX0_passFor 6 = .ok (.istore_n 3, 1) := by decide +kernel
theorem dX0_passFor_7 : decode cX0_passFor 7 = .ok (.iload_n 3, 1) := by decide +kernel
theorem dX0_passFor_8 : decode cX0_passFor 8 = .ok (.iconst (-1), 1) := by decide +kernel
theorem dX0_passFor_9 : decode cX0_passFor 9 = .ok (.if_icmp .ne 4, 3) := by decide +kernel
theorem dX0_passFor_12 : decode cX0_passFor 12 = .ok (.return_, 1) := by decide +kernel
theorem dX0_passFor_13 : decode cX0_passFor 13 = .ok (.iload_n 2, 1) := by decide +kernel
theorem dX0_passFor_14 : decode cX0_passFor 14 = .ok (.iconst 4, 1) := by decide +kernel
theorem dX0_passFor_15 : decode cX0_passFor 15 = .ok (.imul, 1) := by decide +kernel
theorem dX0_passFor_16 : decode cX0_passFor 16 = .ok (.aload_n 0, 1) := by decide +kernel
theorem dX0_passFor_17 : decode cX0_passFor 17 = .ok (.getfield 15, 3) := by decide +kernel
theorem dX0_passFor_20 : decode cX0_passFor 20 = .ok (.iload_n 3, 1) := by decide +kernel
theorem dX0_passFor_21 : decode cX0_passFor 21 = .ok (.iaload, 1) := by decide +kernel
theorem dX0_passFor_22 : decode cX0_passFor 22 = .ok (.iadd, 1) := by decide +kernel
theorem dX0_passFor_23 : decode cX0_passFor 23 = .ok (.istore 4, 2) := by decide +kernel
theorem dX0_passFor_25 : decode cX0_passFor 25 = .ok (.aload_n 1, 1) := by decide +kernel
theorem dX0_passFor_26 : decode cX0_passFor 26 = .ok (.getfield 106, 3) := by decide +kernel
theorem dX0_passFor_29 : decode cX0_passFor 29 = .ok (.iload 4, 2) := by decide +kernel
theorem dX0_passFor_31 : decode cX0_passFor 31 = .ok (.aload_n 1, 1) := by decide +kernel
theorem dX0_passFor_32 : decode cX0_passFor 32 = .ok (.getfield 106, 3) := by decide +kernel
theorem dX0_passFor_35 : decode cX0_passFor 35 = .ok (.iload 4, 2) := by decide +kernel
theorem dX0_passFor_37 : decode cX0_passFor 37 = .ok (.iaload, 1) := by decide +kernel
theorem dX0_passFor_38 : decode cX0_passFor 38 = .ok (.aload_n 0, 1) := by decide +kernel
theorem dX0_passFor_39 : decode cX0_passFor 39 = .ok (.aload_n 1, 1) := by decide +kernel
theorem dX0_passFor_40 : decode cX0_passFor 40 = .ok (.iload_n 2, 1) := by decide +kernel
theorem dX0_passFor_41 : decode cX0_passFor 41 = .ok (.iload_n 3, 1) := by decide +kernel
theorem dX0_passFor_42 : decode cX0_passFor 42 = .ok (.invokevirtual 109, 3) := by decide +kernel
theorem dX0_passFor_45 : decode cX0_passFor 45 = .ok (.iadd, 1) := by decide +kernel
theorem dX0_passFor_46 : decode cX0_passFor 46 = .ok (.bipush 99, 2) := by decide +kernel
theorem dX0_passFor_48 : decode cX0_passFor 48 = .ok (.invokestatic 113, 3) := by decide +kernel
theorem dX0_passFor_51 : decode cX0_passFor 51 = .ok (.iastore, 1) := by decide +kernel
theorem dX0_passFor_52 : decode cX0_passFor 52 = .ok (.aload_n 1, 1) := by decide +kernel
theorem dX0_passFor_53 : decode cX0_passFor 53 = .ok (.getfield 82, 3) := by decide +kernel
theorem dX0_passFor_56 : decode cX0_passFor 56 = .ok (.iload_n 3, 1) := by decide +kernel
theorem dX0_passFor_57 : decode cX0_passFor 57 = .ok (.aload_n 1, 1) := by decide +kernel
theorem dX0_passFor_58 : decode cX0_passFor 58 = .ok (.getfield 82, 3) := by decide +kernel
theorem dX0_passFor_61 : decode cX0_passFor 61 = .ok (.iload_n 3, 1) := by decide +kernel
theorem dX0_passFor_62 : decode cX0_passFor 62 = .ok (.iaload, 1) := by decide +kernel
theorem dX0_passFor_63 : decode cX0_passFor 63 = .ok (.aload_n 0, 1) := by decide +kernel
theorem dX0_passFor_64 : decode cX0_passFor 64 = .ok (.getfield 9, 3) := by decide +kernel
theorem dX0_passFor_67 : decode cX0_passFor 67 = .ok (.iload_n 3, 1) := by decide +kernel
theorem dX0_passFor_68 : decode cX0_passFor 68 = .ok (.iaload, 1) := by decide +kernel
theorem dX0_passFor_69 : decode cX0_passFor 69 = .ok (.aload_n 0, 1) := by decide +kernel
theorem dX0_passFor_70 : decode cX0_passFor 70 = .ok (.getfield 24, 3) := by decide +kernel
theorem dX0_passFor_73 : decode cX0_passFor 73 = .ok (.iload_n 2, 1) := by decide +kernel
theorem dX0_passFor_74 : decode cX0_passFor 74 = .ok (.iaload, 1) := by decide +kernel
theorem dX0_passFor_75 : decode cX0_passFor 75 = .ok (.invokestatic 118, 3) := by decide +kernel
theorem dX0_passFor_78 : decode cX0_passFor 78 = .ok (.isub, 1) := by decide +kernel
theorem dX0_passFor_79 : decode cX0_passFor 79 = .ok (.iconst 0, 1) := by decide +kernel
theorem dX0_passFor_80 : decode cX0_passFor 80 = .ok (.invokestatic 121, 3) := by decide +kernel
theorem dX0_passFor_83 : decode cX0_passFor 83 = .ok (.iastore, 1) := by decide +kernel
theorem dX0_passFor_84 : decode cX0_passFor 84 = .ok (.return_, 1) := by decide +kernel
theorem dX0_pass_0 : decode cX0_pass 0 = .ok (.iconst 0, 1) := by decide +kernel
theorem dX0_pass_1 : decode cX0_pass 1 = .ok (.istore_n 2, 1) := by decide +kernel
theorem dX0_pass_2 : decode cX0_pass 2 = .ok (.iload_n 2, 1) := by decide +kernel
theorem dX0_pass_3 : decode cX0_pass 3 = .ok (.aload_n 0, 1) := by decide +kernel
theorem dX0_pass_4 : decode cX0_pass 4 = .ok (.getfield 57, 3) := by decide +kernel
theorem dX0_pass_7 : decode cX0_pass 7 = .ok (.if_icmp .ge 15, 3) := by decide +kernel
theorem dX0_pass_10 : decode cX0_pass 10 = .ok (.aload_n 0, 1) := by decide +kernel
theorem dX0_pass_11 : decode cX0_pass 11 = .ok (.aload_n 1, 1) := by decide +kernel
theorem dX0_pass_12 : decode cX0_pass 12 = .ok (.iload_n 2, 1) := by decide +kernel
theorem dX0_pass_13 : decode cX0_pass 13 = .ok (.invokevirtual 124, 3) := by decide +kernel
theorem dX0_pass_16 : decode cX0_pass 16 = .ok (.iinc 2 1, 3) := by decide +kernel
theorem dX0_pass_19 : decode cX0_pass 19 = .ok (.goto (-17), 3) := by decide +kernel
theorem dX0_pass_22 : decode cX0_pass 22 = .ok (.aload_n 1, 1) := by decide +kernel
theorem dX0_pass_23 : decode cX0_pass 23 = .ok (.dup, 1) := by decide +kernel
theorem dX0_pass_24 : decode cX0_pass 24 = .ok (.getfield 92, 3) := by decide +kernel
theorem dX0_pass_27 : decode cX0_pass 27 = .ok (.iconst 1, 1) := by decide +kernel
theorem dX0_pass_28 : decode cX0_pass 28 = .ok (.iadd, 1) := by decide +kernel
theorem dX0_pass_29 : decode cX0_pass 29 = .ok (.putfield 92, 3) := by decide +kernel
theorem dX0_pass_32 : decode cX0_pass 32 = .ok (.return_, 1) := by decide +kernel
theorem dX0_passUpToLast_0 : decode cX0_passUpToLast 0 = .ok (.iconst 0, 1) := by decide +kernel
theorem dX0_passUpToLast_1 : decode cX0_passUpToLast 1 = .ok (.istore_n 2, 1) := by decide +kernel
theorem dX0_passUpToLast_2 : decode cX0_passUpToLast 2 = .ok (.iload_n 2, 1) := by decide +kernel
theorem dX0_passUpToLast_3 : decode cX0_passUpToLast 3 = .ok (.iload_n 1, 1) := by decide +kernel
theorem dX0_passUpToLast_4 : decode cX0_passUpToLast 4 = .ok (.if_icmp .ge 30, 3) := by decide +kernel
theorem dX0_passUpToLast_7 : decode cX0_passUpToLast 7 = .ok (.aload_n 0, 1) := by decide +kernel
theorem dX0_passUpToLast_8 : decode cX0_passUpToLast 8 = .ok (.getfield 30, 3) := by decide +kernel
theorem dX0_passUpToLast_11 : decode cX0_passUpToLast 11 = .ok (.getfield 92, 3) := by decide +kernel
theorem dX0_passUpToLast_14 : decode cX0_passUpToLast 14 = .ok (.sipush 999, 3) := by decide +kernel
theorem dX0_passUpToLast_17 : decode cX0_passUpToLast 17 = .ok (.if_icmp .ge 17, 3) := by decide +kernel
theorem dX0_passUpToLast_20 : decode cX0_passUpToLast 20 = .ok (.aload_n 0, 1) := by decide +kernel
theorem dX0_passUpToLast_21 : decode cX0_passUpToLast 21 = .ok (.aload_n 0, 1) := by decide +kernel
theorem dX0_passUpToLast_22 : decode cX0_passUpToLast 22 = .ok (.getfield 30, 3) := by decide +kernel
theorem dX0_passUpToLast_25 : decode cX0_passUpToLast 25 = .ok (.invokevirtual 128, 3) := by decide +kernel
theorem dX0_passUpToLast_28 : decode cX0_passUpToLast 28 = .ok (.iinc 2 1, 3) := by decide +kernel
theorem dX0_passUpToLast_31 : decode cX0_passUpToLast 31 = .ok (.goto (-29), 3) := by decide +kernel
theorem dX0_passUpToLast_34 : decode cX0_passUpToLast 34 = .ok (.return_, 1) := by decide +kernel
theorem dX0_mix_0 : decode cX0_mix 0 = .ok (.lload_n 1, 1) := by decide +kernel
theorem dX0_mix_1 : decode cX0_mix 1 = .ok (.lstore_n 3, 1) := by decide +kernel
theorem dX0_mix_2 : decode cX0_mix 2 = .ok (.iconst 0, 1) := by decide +kernel
theorem dX0_mix_3 : decode cX0_mix 3 = .ok (.istore 5, 2) := by decide +kernel
theorem dX0_mix_5 : decode cX0_mix 5 = .ok (.iload 5, 2) := by decide +kernel
theorem dX0_mix_7 : decode cX0_mix 7 = .ok (.aload_n 0, 1) := by decide +kernel
theorem dX0_mix_8 : decode cX0_mix 8 = .ok (.getfield 53, 3) := by decide +kernel
theorem dX0_mix_11 : decode cX0_mix 11 = .ok (.if_icmp .ge 57, 3) := by decide +kernel
theorem dX0_mix_14 : decode cX0_mix 14 = .ok (.ldc2_w 131, 3) := by decide +kernel
theorem dX0_mix_17 : decode cX0_mix 17 = .ok (.lload_n 3, 1) := by decide +kernel
theorem dX0_mix_18 : decode cX0_mix 18 = .ok (.lmul, 1) := by decide +kernel
theorem dX0_mix_19 : decode cX0_mix 19 = .ok (.aload_n 0, 1) := by decide +kernel
theorem dX0_mix_20 : decode cX0_mix 20 = .ok (.getfield 9, 3) := by decide +kernel
theorem dX0_mix_23 : decode cX0_mix 23 = .ok (.iload 5, 2) := by decide +kernel
theorem dX0_mix_25 : decode cX0_mix 25 = .ok (.iaload, 1) := by decide +kernel
theorem dX0_mix_26 : decode cX0_mix 26 = .ok (.i2l, 1) := by decide +kernel
theorem dX0_mix_27 : decode cX0_mix 27 = .ok (.ladd, 1) := by decide +kernel
theorem dX0_mix_28 : decode cX0_mix 28 = .ok (.lstore_n 3, 1) := by decide +kernel
theorem dX0_mix_29 : decode cX0_mix 29 = .ok (.ldc2_w 131, 3) := by decide +kernel
theorem dX0_mix_32 : decode cX0_mix 32 = .ok (.lload_n 3, 1) := by decide +kernel
theorem dX0_mix_33 : decode cX0_mix 33 = .ok (.lmul, 1) := by decide +kernel
theorem dX0_mix_34 : decode cX0_mix 34 = .ok (.aload_n 0, 1) := by decide +kernel
theorem dX0_mix_35 : decode cX0_mix 35 = .ok (.getfield 15, 3) := by decide +kernel
theorem dX0_mix_38 : decode cX0_mix 38 = .ok (.iload 5, 2) := by decide +kernel
theorem dX0_mix_40 : decode cX0_mix 40 = .ok (.iaload, 1) := by decide +kernel
theorem dX0_mix_41 : decode cX0_mix 41 = .ok (.i2l, 1) := by decide +kernel
theorem dX0_mix_42 : decode cX0_mix 42 = .ok (.ladd, 1) := by decide +kernel
theorem dX0_mix_43 : decode cX0_mix 43 = .ok (.lstore_n 3, 1) := by decide +kernel
theorem dX0_mix_44 : decode cX0_mix 44 = .ok (.ldc2_w 131, 3) := by decide +kernel
theorem dX0_mix_47 : decode cX0_mix 47 = .ok (.lload_n 3, 1) := by decide +kernel
theorem dX0_mix_48 : decode cX0_mix 48 = .ok (.lmul, 1) := by decide +kernel
theorem dX0_mix_49 : decode cX0_mix 49 = .ok (.aload_n 0, 1) := by decide +kernel
theorem dX0_mix_50 : decode cX0_mix 50 = .ok (.getfield 30, 3) := by decide +kernel
theorem dX0_mix_53 : decode cX0_mix 53 = .ok (.getfield 82, 3) := by decide +kernel
theorem dX0_mix_56 : decode cX0_mix 56 = .ok (.iload 5, 2) := by decide +kernel
theorem dX0_mix_58 : decode cX0_mix 58 = .ok (.iaload, 1) := by decide +kernel
theorem dX0_mix_59 : decode cX0_mix 59 = .ok (.i2l, 1) := by decide +kernel
theorem dX0_mix_60 : decode cX0_mix 60 = .ok (.ladd, 1) := by decide +kernel
theorem dX0_mix_61 : decode cX0_mix 61 = .ok (.lstore_n 3, 1) := by decide +kernel
theorem dX0_mix_62 : decode cX0_mix 62 = .ok (.iinc 5 1, 3) := by decide +kernel
theorem dX0_mix_65 : decode cX0_mix 65 = .ok (.goto (-60), 3) := by decide +kernel
theorem dX0_mix_68 : decode cX0_mix 68 = .ok (.iconst 0, 1) := by decide +kernel
theorem dX0_mix_69 : decode cX0_mix 69 = .ok (.istore 5, 2) := by decide +kernel
theorem dX0_mix_71 : decode cX0_mix 71 = .ok (.iload 5, 2) := by decide +kernel
theorem dX0_mix_73 : decode cX0_mix 73 = .ok (.aload_n 0, 1) := by decide +kernel
theorem dX0_mix_74 : decode cX0_mix 74 = .ok (.getfield 57, 3) := by decide +kernel
theorem dX0_mix_77 : decode cX0_mix 77 = .ok (.if_icmp .ge 91, 3) := by decide +kernel
theorem dX0_mix_80 : decode cX0_mix 80 = .ok (.ldc2_w 131, 3) := by decide +kernel
theorem dX0_mix_83 : decode cX0_mix 83 = .ok (.lload_n 3, 1) := by decide +kernel
theorem dX0_mix_84 : decode cX0_mix 84 = .ok (.lmul, 1) := by decide +kernel
theorem dX0_mix_85 : decode cX0_mix 85 = .ok (.aload_n 0, 1) := by decide +kernel
theorem dX0_mix_86 : decode cX0_mix 86 = .ok (.getfield 18, 3) := by decide +kernel
theorem dX0_mix_89 : decode cX0_mix 89 = .ok (.iload 5, 2) := by decide +kernel
theorem dX0_mix_91 : decode cX0_mix 91 = .ok (.iaload, 1) := by decide +kernel
theorem dX0_mix_92 : decode cX0_mix 92 = .ok (.i2l, 1) := by decide +kernel
theorem dX0_mix_93 : decode cX0_mix 93 = .ok (.ladd, 1) := by decide +kernel
theorem dX0_mix_94 : decode cX0_mix 94 = .ok (.lstore_n 3, 1) := by decide +kernel
theorem dX0_mix_95 : decode cX0_mix 95 = .ok (.ldc2_w 131, 3) := by decide +kernel
theorem dX0_mix_98 : decode cX0_mix 98 = .ok (.lload_n 3, 1) := by decide +kernel
theorem dX0_mix_99 : decode cX0_mix 99 = .ok (.lmul, 1) := by decide +kernel
theorem dX0_mix_100 : decode cX0_mix 100 = .ok (.aload_n 0, 1) := by decide +kernel
theorem dX0_mix_101 : decode cX0_mix 101 = .ok (.getfield 21, 3) := by decide +kernel
theorem dX0_mix_104 : decode cX0_mix 104 = .ok (.iload 5, 2) := by decide +kernel
theorem dX0_mix_106 : decode cX0_mix 106 = .ok (.iaload, 1) := by decide +kernel
theorem dX0_mix_107 : decode cX0_mix 107 = .ok (.i2l, 1) := by decide +kernel
theorem dX0_mix_108 : decode cX0_mix 108 = .ok (.ladd, 1) := by decide +kernel
theorem dX0_mix_109 : decode cX0_mix 109 = .ok (.lstore_n 3, 1) := by decide +kernel
theorem dX0_mix_110 : decode cX0_mix 110 = .ok (.ldc2_w 131, 3) := by decide +kernel
theorem dX0_mix_113 : decode cX0_mix 113 = .ok (.lload_n 3, 1) := by decide +kernel
theorem dX0_mix_114 : decode cX0_mix 114 = .ok (.lmul, 1) := by decide +kernel
theorem dX0_mix_115 : decode cX0_mix 115 = .ok (.aload_n 0, 1) := by decide +kernel
theorem dX0_mix_116 : decode cX0_mix 116 = .ok (.getfield 30, 3) := by decide +kernel
theorem dX0_mix_119 : decode cX0_mix 119 = .ok (.getfield 103, 3) := by decide +kernel
theorem dX0_mix_122 : decode cX0_mix 122 = .ok (.iload 5, 2) := by decide +kernel
theorem dX0_mix_124 : decode cX0_mix 124 = .ok (.iaload, 1) := by decide +kernel
theorem dX0_mix_125 : decode cX0_mix 125 = .ok (.i2l, 1) := by decide +kernel
theorem dX0_mix_126 : decode cX0_mix 126 = .ok (.ladd, 1) := by decide +kernel
theorem dX0_mix_127 : decode cX0_mix 127 = .ok (.lstore_n 3, 1) := by decide +kernel
theorem dX0_mix_128 : decode cX0_mix 128 = .ok (.iconst 0, 1) := by decide +kernel
theorem dX0_mix_129 : decode cX0_mix 129 = .ok (.istore 6, 2) := by decide +kernel
theorem dX0_mix_131 : decode cX0_mix 131 = .ok (.iload 6, 2) := by decide +kernel
theorem dX0_mix_133 : decode cX0_mix 133 = .ok (.iconst 4, 1) := by decide +kernel
theorem dX0_mix_134 : decode cX0_mix 134 = .ok (.if_icmp .ge 28, 3) := by decide +kernel
theorem dX0_mix_137 : decode cX0_mix 137 = .ok (.ldc2_w 131, 3) := by decide +kernel
theorem dX0_mix_140 : decode cX0_mix 140 = .ok (.lload_n 3, 1) := by decide +kernel
theorem dX0_mix_141 : decode cX0_mix 141 = .ok (.lmul, 1) := by decide +kernel
theorem dX0_mix_142 : decode cX0_mix 142 = .ok (.aload_n 0, 1) := by decide +kernel
theorem dX0_mix_143 : decode cX0_mix 143 = .ok (.getfield 30, 3) := by decide +kernel
theorem dX0_mix_146 : decode cX0_mix 146 = .ok (.iload 5, 2) := by decide +kernel
theorem dX0_mix_148 : decode cX0_mix 148 = .ok (.iload 6, 2) := by decide +kernel
theorem dX0_mix_150 : decode cX0_mix 150 = .ok (.invokevirtual 89, 3) := by decide +kernel
theorem dX0_mix_153 : decode cX0_mix 153 = .ok (.i2l, 1) := by decide +kernel
theorem dX0_mix_154 : decode cX0_mix 154 = .ok (.ladd, 1) := by decide +kernel
theorem dX0_mix_155 : decode cX0_mix 155 = .ok (.lstore_n 3, 1) := by decide +kernel
theorem dX0_mix_156 : decode cX0_mix 156 = .ok (.iinc 6 1, 3) := by decide +kernel
theorem dX0_mix_159 : decode cX0_mix 159 = .ok (.goto (-28), 3) := by decide +kernel
theorem dX0_mix_162 : decode cX0_mix 162 = .ok (.iinc 5 1, 3) := by decide +kernel
theorem dX0_mix_165 : decode cX0_mix 165 = .ok (.goto (-94), 3) := by decide +kernel
theorem dX0_mix_168 : decode cX0_mix 168 = .ok (.aload_n 0, 1) := by decide +kernel
theorem dX0_mix_169 : decode cX0_mix 169 = .ok (.getfield 50, 3) := by decide +kernel
theorem dX0_mix_172 : decode cX0_mix 172 = .ok (.aload_n 0, 1) := by decide +kernel
theorem dX0_mix_173 : decode cX0_mix 173 = .ok (.getfield 47, 3) := by decide +kernel
theorem dX0_mix_176 : decode cX0_mix 176 = .ok (.aload_n 0, 1) := by decide +kernel
theorem dX0_mix_177 : decode cX0_mix 177 = .ok (.getfield 43, 3) := by decide +kernel
theorem dX0_mix_180 : decode cX0_mix 180 = .ok (.lload_n 3, 1) := by decide +kernel
theorem dX0_mix_181 : decode cX0_mix 181 = .ok (.invokevirtual 133, 3) := by decide +kernel
theorem dX0_mix_184 : decode cX0_mix 184 = .ok (.invokevirtual 133, 3) := by decide +kernel
theorem dX0_mix_187 : decode cX0_mix 187 = .ok (.invokevirtual 133, 3) := by decide +kernel
theorem dX0_mix_190 : decode cX0_mix 190 = .ok (.lreturn, 1) := by decide +kernel
theorem dX1_init_0 : decode cX1_init 0 = .ok (.aload_n 0, 1) := by decide +kernel
theorem dX1_init_1 : decode cX1_init 1 = .ok (.invokespecial 3, 3) := by decide +kernel
theorem dX1_init_4 : decode cX1_init 4 = .ok (.aload_n 0, 1) := by decide +kernel
theorem dX1_init_5 : decode cX1_init 5 = .ok (.bipush 30, 2) := by decide +kernel
theorem dX1_init_7 : decode cX1_init 7 = .ok (.newarray .int, 2) := by decide +kernel
theorem dX1_init_9 : decode cX1_init 9 = .ok (.putfield 11, 3) := by decide +kernel
theorem dX1_init_12 : decode cX1_init 12 = .ok (.aload_n 0, 1) := by decide +kernel
theorem dX1_init_13 : decode cX1_init 13 = .ok (.iload_n 1, 1) := by decide +kernel
theorem dX1_init_14 : decode cX1_init 14 = .ok (.putfield 15, 3) := by decide +kernel
theorem dX1_init_17 : decode cX1_init 17 = .ok (.return_, 1) := by decide +kernel
theorem dX1_become_0 : decode cX1_become 0 = .ok (.aload_n 0, 1) := by decide +kernel
theorem dX1_become_1 : decode cX1_become 1 = .ok (.aload_n 1, 1) := by decide +kernel
theorem dX1_become_2 : decode cX1_become 2 = .ok (.getfield 19, 3) := by decide +kernel
theorem dX1_become_5 : decode cX1_become 5 = .ok (.putfield 19, 3) := by decide +kernel
theorem dX1_become_8 : decode cX1_become 8 = .ok (.aload_n 1, 1) := by decide +kernel
theorem dX1_become_9 : decode cX1_become 9 = .ok (.getfield 11, 3) := by decide +kernel
theorem dX1_become_12 : decode cX1_become 12 = .ok (.iconst 0, 1) := by decide +kernel
theorem dX1_become_13 : decode cX1_become 13 = .ok (.aload_n 0, 1) := by decide +kernel
theorem dX1_become_14 : decode cX1_become 14 = .ok (.getfield 11, 3) := by decide +kernel
theorem dX1_become_17 : decode cX1_become 17 = .ok (.iconst 0, 1) := by decide +kernel
theorem dX1_become_18 : decode cX1_become 18 = .ok (.bipush 30, 2) := by decide +kernel
theorem dX1_become_20 : decode cX1_become 20 = .ok (.invokestatic 22, 3) := by decide +kernel
theorem dX1_become_23 : decode cX1_become 23 = .ok (.return_, 1) := by decide +kernel
theorem dX1_add_0 : decode cX1_add 0 = .ok (.aload_n 0, 1) := by decide +kernel
theorem dX1_add_1 : decode cX1_add 1 = .ok (.getfield 19, 3) := by decide +kernel
theorem dX1_add_4 : decode cX1_add 4 = .ok (.iconst 5, 1) := by decide +kernel
theorem dX1_add_5 : decode cX1_add 5 = .ok (.imul, 1) := by decide +kernel
theorem dX1_add_6 : decode cX1_add 6 = .ok (.istore 6, 2) := by decide +kernel
theorem dX1_add_8 : decode cX1_add 8 = .ok (.aload_n 0, 1) := by decide +kernel
theorem dX1_add_9 : decode cX1_add 9 = .ok (.getfield 11, 3) := by decide +kernel
theorem dX1_add_12 : decode cX1_add 12 = .ok (.iload 6, 2) := by decide +kernel
theorem dX1_add_14 : decode cX1_add 14 = .ok (.iload_n 1, 1) := by decide +kernel
theorem dX1_add_15 : decode cX1_add 15 = .ok (.iastore, 1) := by decide +kernel
theorem dX1_add_16 : decode cX1_add 16 = .ok (.aload_n 0, 1) := by decide +kernel
theorem dX1_add_17 : decode cX1_add 17 = .ok (.getfield 11, 3) := by decide +kernel
theorem dX1_add_20 : decode cX1_add 20 = .ok (.iload 6, 2) := by decide +kernel
theorem dX1_add_22 : decode cX1_add 22 = .ok (.iconst 1, 1) := by decide +kernel
theorem dX1_add_23 : decode cX1_add 23 = .ok (.iadd, 1) := by decide +kernel
theorem dX1_add_24 : decode cX1_add 24 = .ok (.iload_n 2, 1) := by decide +kernel
theorem dX1_add_25 : decode cX1_add 25 = .ok (.iastore, 1) := by decide +kernel
theorem dX1_add_26 : decode cX1_add 26 = .ok (.aload_n 0, 1) := by decide +kernel
theorem dX1_add_27 : decode cX1_add 27 = .ok (.getfield 11, 3) := by decide +kernel
theorem dX1_add_30 : decode cX1_add 30 = .ok (.iload 6, 2) := by decide +kernel
theorem dX1_add_32 : decode cX1_add 32 = .ok (.iconst 2, 1) := by decide +kernel
theorem dX1_add_33 : decode cX1_add 33 = .ok (.iadd, 1) := by decide +kernel
theorem dX1_add_34 : decode cX1_add 34 = .ok (.iload_n 3, 1) := by decide +kernel
theorem dX1_add_35 : decode cX1_add 35 = .ok (.iastore, 1) := by decide +kernel
theorem dX1_add_36 : decode cX1_add 36 = .ok (.aload_n 0, 1) := by decide +kernel
theorem dX1_add_37 : decode cX1_add 37 = .ok (.getfield 11, 3) := by decide +kernel
theorem dX1_add_40 : decode cX1_add 40 = .ok (.iload 6, 2) := by decide +kernel
theorem dX1_add_42 : decode cX1_add 42 = .ok (.iconst 3, 1) := by decide +kernel
theorem dX1_add_43 : decode cX1_add 43 = .ok (.iadd, 1) := by decide +kernel
theorem dX1_add_44 : decode cX1_add 44 = .ok (.iload 4, 2) := by decide +kernel
theorem dX1_add_46 : decode cX1_add 46 = .ok (.iastore, 1) := by decide +kernel
theorem dX1_add_47 : decode cX1_add 47 = .ok (.aload_n 0, 1) := by decide +kernel
theorem dX1_add_48 : decode cX1_add 48 = .ok (.getfield 11, 3) := by decide +kernel
theorem dX1_add_51 : decode cX1_add 51 = .ok (.iload 6, 2) := by decide +kernel
theorem dX1_add_53 : decode cX1_add 53 = .ok (.iconst 4, 1) := by decide +kernel
theorem dX1_add_54 : decode cX1_add 54 = .ok (.iadd, 1) := by decide +kernel
theorem dX1_add_55 : decode cX1_add 55 = .ok (.iload 5, 2) := by decide +kernel
theorem dX1_add_57 : decode cX1_add 57 = .ok (.iastore, 1) := by decide +kernel
theorem dX1_add_58 : decode cX1_add 58 = .ok (.aload_n 0, 1) := by decide +kernel
theorem dX1_add_59 : decode cX1_add 59 = .ok (.dup, 1) := by decide +kernel
theorem dX1_add_60 : decode cX1_add 60 = .ok (.getfield 19, 3) := by decide +kernel
theorem dX1_add_63 : decode cX1_add 63 = .ok (.iconst 1, 1) := by decide +kernel
theorem dX1_add_64 : decode cX1_add 64 = .ok (.iadd, 1) := by decide +kernel
theorem dX1_add_65 : decode cX1_add 65 = .ok (.putfield 19, 3) := by decide +kernel
theorem dX1_add_68 : decode cX1_add 68 = .ok (.return_, 1) := by decide +kernel
theorem dX1_at_0 : decode cX1_at 0 = .ok (.aload_n 0, 1) := by decide +kernel
theorem dX1_at_1 : decode cX1_at 1 = .ok (.getfield 11, 3) := by decide +kernel
theorem dX1_at_4 : decode cX1_at 4 = .ok (.iload_n 1, 1) := by decide +kernel
theorem dX1_at_5 : decode cX1_at 5 = .ok (.iconst 5, 1) := by decide +kernel
theorem dX1_at_6 : decode cX1_at 6 = .ok (.imul, 1) := by decide +kernel
theorem dX1_at_7 : decode cX1_at 7 = .ok (.iload_n 2, 1) := by decide +kernel
theorem dX1_at_8 : decode cX1_at 8 = .ok (.iadd, 1) := by decide +kernel
theorem dX1_at_9 : decode cX1_at 9 = .ok (.iaload, 1) := by decide +kernel
theorem dX1_at_10 : decode cX1_at 10 = .ok (.ireturn, 1) := by decide +kernel
theorem dX1_mix_0 : decode cX1_mix 0 = .ok (.lload_n 1, 1) := by decide +kernel
theorem dX1_mix_1 : decode cX1_mix 1 = .ok (.lstore_n 3, 1) := by decide +kernel
theorem dX1_mix_2 : decode cX1_mix 2 = .ok (.iconst 0, 1) := by decide +kernel
theorem dX1_mix_3 : decode cX1_mix 3 = .ok (.istore 5, 2) := by decide +kernel
theorem dX1_mix_5 : decode cX1_mix 5 = .ok (.iload 5, 2) := by decide +kernel
theorem dX1_mix_7 : decode cX1_mix 7 = .ok (.aload_n 0, 1) := by decide +kernel
theorem dX1_mix_8 : decode cX1_mix 8 = .ok (.getfield 19, 3) := by decide +kernel
theorem dX1_mix_11 : decode cX1_mix 11 = .ok (.if_icmp .ge 43, 3) := by decide +kernel
theorem dX1_mix_14 : decode cX1_mix 14 = .ok (.iconst 0, 1) := by decide +kernel
theorem dX1_mix_15 : decode cX1_mix 15 = .ok (.istore 6, 2) := by decide +kernel
theorem dX1_mix_17 : decode cX1_mix 17 = .ok (.iload 6, 2) := by decide +kernel
theorem dX1_mix_19 : decode cX1_mix 19 = .ok (.aload_n 0, 1) := by decide +kernel
theorem dX1_mix_20 : decode cX1_mix 20 = .ok (.getfield 15, 3) := by decide +kernel
theorem dX1_mix_23 : decode cX1_mix 23 = .ok (.if_icmp .ge 25, 3) := by decide +kernel
theorem dX1_mix_26 : decode cX1_mix 26 = .ok (.ldc2_w 28, 3) := by decide +kernel
theorem dX1_mix_29 : decode cX1_mix 29 = .ok (.lload_n 3, 1) := by decide +kernel
theorem dX1_mix_30 : decode cX1_mix 30 = .ok (.lmul, 1) := by decide +kernel
theorem dX1_mix_31 : decode cX1_mix 31 = .ok (.aload_n 0, 1) := by decide +kernel
theorem dX1_mix_32 : decode cX1_mix 32 = .ok (.iload 5, 2) := by decide +kernel
theorem dX1_mix_34 : decode cX1_mix 34 = .ok (.iload 6, 2) := by decide +kernel
theorem dX1_mix_36 : decode cX1_mix 36 = .ok (.invokevirtual 30, 3) := by decide +kernel
theorem dX1_mix_39 : decode cX1_mix 39 = .ok (.i2l, 1) := by decide +kernel
theorem dX1_mix_40 : decode cX1_mix 40 = .ok (.ladd, 1) := by decide +kernel
theorem dX1_mix_41 : decode cX1_mix 41 = .ok (.lstore_n 3, 1) := by decide +kernel
theorem dX1_mix_42 : decode cX1_mix 42 = .ok (.iinc 6 1, 3) := by decide +kernel
theorem dX1_mix_45 : decode cX1_mix 45 = .ok (.goto (-28), 3) := by decide +kernel
theorem dX1_mix_48 : decode cX1_mix 48 = .ok (.iinc 5 1, 3) := by decide +kernel
theorem dX1_mix_51 : decode cX1_mix 51 = .ok (.goto (-46), 3) := by decide +kernel
theorem dX1_mix_54 : decode cX1_mix 54 = .ok (.lload_n 3, 1) := by decide +kernel
theorem dX1_mix_55 : decode cX1_mix 55 = .ok (.lreturn, 1) := by decide +kernel
theorem dX2_init_0 : decode cX2_init 0 = .ok (.aload_n 0, 1) := by decide +kernel
theorem dX2_init_1 : decode cX2_init 1 = .ok (.invokespecial 3, 3) := by decide +kernel
theorem dX2_init_4 : decode cX2_init 4 = .ok (.aload_n 0, 1) := by decide +kernel
theorem dX2_init_5 : decode cX2_init 5 = .ok (.iconst 5, 1) := by decide +kernel
theorem dX2_init_6 : decode cX2_init 6 = .ok (.newarray .int, 2) := by decide +kernel
theorem dX2_init_8 : decode cX2_init 8 = .ok (.putfield 9, 3) := by decide +kernel
theorem dX2_init_11 : decode cX2_init 11 = .ok (.aload_n 0, 1) := by decide +kernel
theorem dX2_init_12 : decode cX2_init 12 = .ok (.bipush 20, 2) := by decide +kernel
theorem dX2_init_14 : decode cX2_init 14 = .ok (.newarray .int, 2) := by decide +kernel
theorem dX2_init_16 : decode cX2_init 16 = .ok (.putfield 15, 3) := by decide +kernel
theorem dX2_init_19 : decode cX2_init 19 = .ok (.aload_n 0, 1) := by decide +kernel
theorem dX2_init_20 : decode cX2_init 20 = .ok (.bipush 7, 2) := by decide +kernel
theorem dX2_init_22 : decode cX2_init 22 = .ok (.newarray .int, 2) := by decide +kernel
theorem dX2_init_24 : decode cX2_init 24 = .ok (.putfield 18, 3) := by decide +kernel
theorem dX2_init_27 : decode cX2_init 27 = .ok (.aload_n 0, 1) := by decide +kernel
theorem dX2_init_28 : decode cX2_init 28 = .ok (.getfield 9, 3) := by decide +kernel
theorem dX2_init_31 : decode cX2_init 31 = .ok (.iconst (-1), 1) := by decide +kernel
theorem dX2_init_32 : decode cX2_init 32 = .ok (.invokestatic 21, 3) := by decide +kernel
theorem dX2_init_35 : decode cX2_init 35 = .ok (.return_, 1) := by decide +kernel
theorem dX2_empty_0 : decode cX2_empty 0 = .ok (.aload_n 0, 1) := by decide +kernel
theorem dX2_empty_1 : decode cX2_empty 1 = .ok (.iconst 0, 1) := by decide +kernel
theorem dX2_empty_2 : decode cX2_empty 2 = .ok (.putfield 27, 3) := by decide +kernel
theorem dX2_empty_5 : decode cX2_empty 5 = .ok (.aload_n 0, 1) := by decide +kernel
theorem dX2_empty_6 : decode cX2_empty 6 = .ok (.getfield 9, 3) := by decide +kernel
theorem dX2_empty_9 : decode cX2_empty 9 = .ok (.iconst (-1), 1) := by decide +kernel
theorem dX2_empty_10 : decode cX2_empty 10 = .ok (.invokestatic 21, 3) := by decide +kernel
theorem dX2_empty_13 : decode cX2_empty 13 = .ok (.aload_n 0, 1) := by decide +kernel
theorem dX2_empty_14 : decode cX2_empty 14 = .ok (.getfield 15, 3) := by decide +kernel
theorem dX2_empty_17 : decode cX2_empty 17 = .ok (.iconst 0, 1) := by decide +kernel
theorem dX2_empty_18 : decode cX2_empty 18 = .ok (.invokestatic 21, 3) := by decide +kernel
theorem dX2_empty_21 : decode cX2_empty 21 = .ok (.aload_n 0, 1) := by decide +kernel
theorem dX2_empty_22 : decode cX2_empty 22 = .ok (.getfield 18, 3) := by decide +kernel
theorem dX2_empty_25 : decode cX2_empty 25 = .ok (.iconst 0, 1) := by decide +kernel
theorem dX2_empty_26 : decode cX2_empty 26 = .ok (.invokestatic 21, 3) := by decide +kernel
theorem dX2_empty_29 : decode cX2_empty 29 = .ok (.return_, 1) := by decide +kernel
theorem dX2_become_0 : decode cX2_become 0 = .ok (.aload_n 0, 1) := by decide +kernel
theorem dX2_become_1 : decode cX2_become 1 = .ok (.aload_n 1, 1) := by decide +kernel
theorem dX2_become_2 : decode cX2_become 2 = .ok (.getfield 27, 3) := by decide +kernel
theorem dX2_become_5 : decode cX2_become 5 = .ok (.putfield 27, 3) := by decide +kernel
theorem dX2_become_8 : decode cX2_become 8 = .ok (.aload_n 1, 1) := by decide +kernel
theorem dX2_become_9 : decode cX2_become 9 = .ok (.getfield 9, 3) := by decide +kernel
theorem dX2_become_12 : decode cX2_become 12 = .ok (.iconst 0, 1) := by decide +kernel
theorem dX2_become_13 : decode cX2_become 13 = .ok (.aload_n 0, 1) := by decide +kernel
theorem dX2_become_14 : decode cX2_become 14 = .ok (.getfield 9, 3) := by decide +kernel
theorem dX2_become_17 : decode cX2_become 17 = .ok (.iconst 0, 1) := by decide +kernel
theorem dX2_become_18 : decode cX2_become 18 = .ok (.iconst 5, 1) := by decide +kernel
theorem dX2_become_19 : decode cX2_become 19 = .ok (.invokestatic 31, 3) := by decide +kernel
theorem dX2_become_22 : decode cX2_become 22 = .ok (.aload_n 1, 1) := by decide +kernel
theorem dX2_become_23 : decode cX2_become 23 = .ok (.getfield 15, 3) := by decide +kernel
theorem dX2_become_26 : decode cX2_become 26 = .ok (.iconst 0, 1) := by decide +kernel
theorem dX2_become_27 : decode cX2_become 27 = .ok (.aload_n 0, 1) := by decide +kernel
theorem dX2_become_28 : decode cX2_become 28 = .ok (.getfield 15, 3) := by decide +kernel
theorem dX2_become_31 : decode cX2_become 31 = .ok (.iconst 0, 1) := by decide +kernel
theorem dX2_become_32 : decode cX2_become 32 = .ok (.bipush 20, 2) := by decide +kernel
theorem dX2_become_34 : decode cX2_become 34 = .ok (.invokestatic 31, 3) := by decide +kernel
theorem dX2_become_37 : decode cX2_become 37 = .ok (.aload_n 1, 1) := by decide +kernel
theorem dX2_become_38 : decode cX2_become 38 = .ok (.getfield 18, 3) := by decide +kernel
theorem dX2_become_41 : decode cX2_become 41 = .ok (.iconst 0, 1) := by decide +kernel
theorem dX2_become_42 : decode cX2_become 42 = .ok (.aload_n 0, 1) := by decide +kernel
theorem dX2_become_43 : decode cX2_become 43 = .ok (.getfield 18, 3) := by decide +kernel
theorem dX2_become_46 : decode cX2_become 46 = .ok (.iconst 0, 1) := by decide +kernel
theorem dX2_become_47 : decode cX2_become 47 = .ok (.bipush 7, 2) := by decide +kernel
theorem dX2_become_49 : decode cX2_become 49 = .ok (.invokestatic 31, 3) := by decide +kernel
theorem dX2_become_52 : decode cX2_become 52 = .ok (.return_, 1) := by decide +kernel
theorem dX2_takenOf_0 : decode cX2_takenOf 0 = .ok (.aload_n 0, 1) := by decide +kernel
theorem dX2_takenOf_1 : decode cX2_takenOf 1 = .ok (.getfield 15, 3) := by decide +kernel
theorem dX2_takenOf_4 : decode cX2_takenOf 4 = .ok (.iload_n 1, 1) := by decide +kernel
theorem dX2_takenOf_5 : decode cX2_takenOf 5 = .ok (.iconst 4, 1) := by decide +kernel
theorem dX2_takenOf_6 : decode cX2_takenOf 6 = .ok (.imul, 1) := by decide +kernel
theorem dX2_takenOf_7 : decode cX2_takenOf 7 = .ok (.iload_n 2, 1) := by decide +kernel
theorem dX2_takenOf_8 : decode cX2_takenOf 8 = .ok (.iadd, 1) := by decide +kernel
theorem dX2_takenOf_9 : decode cX2_takenOf 9 = .ok (.iaload, 1) := by decide +kernel
theorem dX2_takenOf_10 : decode cX2_takenOf 10 = .ok (.ireturn, 1) := by decide +kernel
theorem dX2_sitter_0 : decode cX2_sitter 0 = .ok (.iconst 0, 1) := by decide +kernel
theorem dX2_sitter_1 : decode cX2_sitter 1 = .ok (.istore_n 2, 1) := by decide +kernel
theorem dX2_sitter_2 : decode cX2_sitter 2 = .ok (.iload_n 2, 1) := by decide +kernel
theorem dX2_sitter_3 : decode cX2_sitter 3 = .ok (.iconst 5, 1) := by decide +kernel
theorem dX2_sitter_4 : decode cX2_sitter 4 = .ok (.if_icmp .ge 21, 3) := by decide +kernel
theorem dX2_sitter_7 : decode cX2_sitter 7 = .ok (.aload_n 0, 1) := by decide +kernel
theorem dX2_sitter_8 : decode cX2_sitter 8 = .ok (.getfield 9, 3) := by decide +kernel
theorem dX2_sitter_11 : decode cX2_sitter 11 = .ok (.iload_n 2, 1) := by decide +kernel
theorem dX2_sitter_12 : decode cX2_sitter 12 = .ok (.iaload, 1) := by decide +kernel
theorem dX2_sitter_13 : decode cX2_sitter 13 = .ok (.iload_n 1, 1) := by decide +kernel
theorem dX2_sitter_14 : decode cX2_sitter 14 = .ok (.if_icmp .ne 5, 3) := by decide +kernel
theorem dX2_sitter_17 : decode cX2_sitter 17 = .ok (.iload_n 2, 1) := by decide +kernel
theorem dX2_sitter_18 : decode cX2_sitter 18 = .ok (.ireturn, 1) := by decide +kernel
theorem dX2_sitter_19 : decode cX2_sitter 19 = .ok (.iinc 2 1, 3) := by decide +kernel
theorem dX2_sitter_22 : decode cX2_sitter 22 = .ok (.goto (-20), 3) := by decide +kernel
theorem dX2_sitter_25 : decode cX2_sitter 25 = .ok (.iconst (-1), 1) := by decide +kernel
theorem dX2_sitter_26 : decode cX2_sitter 26 = .ok (.ireturn, 1) := by decide +kernel
theorem dX2_isHeldByOther_0 : decode cX2_isHeldByOther 0 = .ok (.iload_n 2, 1) := by decide +kernel
theorem dX2_isHeldByOther_1 : decode cX2_isHeldByOther 1 = .ok (.iconst (-1), 1) := by decide +kernel
theorem dX2_isHeldByOther_2 : decode cX2_isHeldByOther 2 = .ok (.if_icmp .ne 7, 3) := by decide +kernel
theorem dX2_isHeldByOther_5 : decode cX2_isHeldByOther 5 = .ok (.iconst (-1), 1) := by decide +kernel
theorem dX2_isHeldByOther_6 : decode cX2_isHeldByOther 6 = .ok (.goto 8, 3) := by decide +kernel
theorem dX2_isHeldByOther_9 : decode cX2_isHeldByOther 9 = .ok (.aload_n 0, 1) := by decide +kernel
theorem dX2_isHeldByOther_10 : decode cX2_isHeldByOther 10 = .ok (.iload_n 2, 1) := by decide +kernel
theorem dX2_isHeldByOther_11 : decode cX2_isHeldByOther 11 = .ok (.invokevirtual 37, 3) := by decide +kernel
theorem dX2_isHeldByOther_14 : decode cX2_isHeldByOther 14 = .ok (.istore_n 3, 1) := by decide +kernel
theorem dX2_isHeldByOther_15 : decode cX2_isHeldByOther 15 = .ok (.iload_n 3, 1) := by decide +kernel
theorem dX2_isHeldByOther_16 : decode cX2_isHeldByOther 16 = .ok (.iconst (-1), 1) := by decide +kernel
theorem dX2_isHeldByOther_17 : decode cX2_isHeldByOther 17 = .ok (.if_icmp .eq 12, 3) := by decide +kernel
theorem dX2_isHeldByOther_20 : decode cX2_isHeldByOther 20 = .ok (.iload_n 3, 1) := by decide +kernel
theorem dX2_isHeldByOther_21 : decode cX2_isHeldByOther 21 = .ok (.iload_n 1, 1) := by decide +kernel
theorem dX2_isHeldByOther_22 : decode cX2_isHeldByOther 22 = .ok (.if_icmp .eq 7, 3) := by decide +kernel
theorem dX2_isHeldByOther_25 : decode cX2_isHeldByOther 25 = .ok (.iconst 1, 1) := by decide +kernel
theorem dX2_isHeldByOther_26 : decode cX2_isHeldByOther 26 = .ok (.goto 4, 3) := by decide +kernel
theorem dX2_isHeldByOther_29 : decode cX2_isHeldByOther 29 = .ok (.iconst 0, 1) := by decide +kernel
theorem dX2_isHeldByOther_30 : decode cX2_isHeldByOther 30 = .ok (.ireturn, 1) := by decide +kernel
theorem dX2_exchange_0 : decode cX2_exchange 0 = .ok (.aload_n 0, 1) := by decide +kernel
theorem dX2_exchange_1 : decode cX2_exchange 1 = .ok (.getfield 9, 3) := by decide +kernel
theorem dX2_exchange_4 : decode cX2_exchange 4 = .ok (.iload_n 1, 1) := by decide +kernel
theorem dX2_exchange_5 : decode cX2_exchange 5 = .ok (.iaload, 1) := by decide +kernel
theorem dX2_exchange_6 : decode cX2_exchange 6 = .ok (.istore_n 3, 1) := by decide +kernel
theorem dX2_exchange_7 : decode cX2_exchange 7 = .ok (.aload_n 0, 1) := by decide +kernel
theorem dX2_exchange_8 : decode cX2_exchange 8 = .ok (.getfield 9, 3) := by decide +kernel
theorem dX2_exchange_11 : decode cX2_exchange 11 = .ok (.iload_n 1, 1) := by decide +kernel
theorem dX2_exchange_12 : decode cX2_exchange 12 = .ok (.aload_n 0, 1) := by decide +kernel
theorem dX2_exchange_13 : decode cX2_exchange 13 = .ok (.getfield 9, 3) := by decide +kernel
theorem dX2_exchange_16 : decode cX2_exchange 16 = .ok (.iload_n 2, 1) := by decide +kernel
theorem dX2_exchange_17 : decode cX2_exchange 17 = .ok (.iaload, 1) := by decide +kernel
theorem dX2_exchange_18 : decode cX2_exchange 18 = .ok (.iastore, 1) := by decide +kernel
theorem dX2_exchange_19 : decode cX2_exchange 19 = .ok (.aload_n 0, 1) := by decide +kernel
theorem dX2_exchange_20 : decode cX2_exchange 20 = .ok (.getfield 9, 3) := by decide +kernel
theorem dX2_exchange_23 : decode cX2_exchange 23 = .ok (.iload_n 2, 1) := by decide +kernel
theorem dX2_exchange_24 : decode cX2_exchange 24 = .ok (.iload_n 3, 1) := by decide +kernel
theorem dX2_exchange_25 : decode cX2_exchange 25 = .ok (.iastore, 1) := by decide +kernel
theorem dX2_exchange_26 : decode cX2_exchange 26 = .ok (.return_, 1) := by decide +kernel
theorem dX2_doing_0 : decode cX2_doing 0 = .ok (.iconst 0, 1) := by decide +kernel
theorem dX2_doing_1 : decode cX2_doing 1 = .ok (.istore_n 2, 1) := by decide +kernel
theorem dX2_doing_2 : decode cX2_doing 2 = .ok (.iconst 1, 1) := by decide +kernel
theorem dX2_doing_3 : decode cX2_doing 3 = .ok (.istore_n 3, 1) := by decide +kernel
theorem dX2_doing_4 : decode cX2_doing 4 = .ok (.iload_n 3, 1) := by decide +kernel
theorem dX2_doing_5 : decode cX2_doing 5 = .ok (.iconst 4, 1) := by decide +kernel
theorem dX2_doing_6 : decode cX2_doing 6 = .ok (.if_icmp .ge 26, 3) := by decide +kernel
theorem dX2_doing_9 : decode cX2_doing 9 = .ok (.aload_n 0, 1) := by decide +kernel
theorem dX2_doing_10 : decode cX2_doing 10 = .ok (.iload_n 1, 1) := by decide +kernel
theorem dX2_doing_11 : decode cX2_doing 11 = .ok (.iload_n 3, 1) := by decide +kernel
theorem dX2_doing_12 : decode cX2_doing 12 = .ok (.invokevirtual 41, 3) := by decide +kernel
theorem dX2_doing_15 : decode cX2_doing 15 = .ok (.aload_n 0, 1) := by decide +kernel
theorem dX2_doing_16 : decode cX2_doing 16 = .ok (.iload_n 1, 1) := by decide +kernel
theorem dX2_doing_17 : decode cX2_doing 17 = .ok (.iload_n 2, 1) := by decide +kernel
theorem dX2_doing_18 : decode cX2_doing 18 = .ok (.invokevirtual 41, 3) := by decide +kernel
theorem dX2_doing_21 : decode cX2_doing 21 = .ok (.if_icmp .le 5, 3) := by decide +kernel
theorem dX2_doing_24 : decode cX2_doing 24 = .ok (.iload_n 3, 1) := by decide +kernel
theorem dX2_doing_25 : decode cX2_doing 25 = .ok (.istore_n 2, 1) := by decide +kernel
theorem dX2_doing_26 : decode cX2_doing 26 = .ok (.iinc 3 1, 3) := by decide +kernel
theorem dX2_doing_29 : decode cX2_doing 29 = .ok (.goto (-25), 3) := by decide +kernel
theorem dX2_doing_32 : decode cX2_doing 32 = .ok (.aload_n 0, 1) := by decide +kernel
theorem dX2_doing_33 : decode cX2_doing 33 = .ok (.iload_n 1, 1) := by decide +kernel
theorem dX2_doing_34 : decode cX2_doing 34 = .ok (.iload_n 2, 1) := by decide +kernel
theorem dX2_doing_35 : decode cX2_doing 35 = .ok (.invokevirtual 41, 3) := by decide +kernel
theorem dX2_doing_38 : decode cX2_doing 38 = .ok (.bipush 10, 2) := by decide +kernel
theorem dX2_doing_40 : decode cX2_doing 40 = .ok (.if_icmp .lt 7, 3) := by decide +kernel
theorem dX2_doing_43 : decode cX2_doing 43 = .ok (.iload_n 2, 1) := by decide +kernel
theorem dX2_doing_44 : decode cX2_doing 44 = .ok (.goto 4, 3) := by decide +kernel
theorem dX2_doing_47 : decode cX2_doing 47 = .ok (.iconst (-1), 1) := by decide +kernel
theorem dX2_doing_48 : decode cX2_doing 48 = .ok (.ireturn, 1) := by decide +kernel
theorem dX2_doers_0 : decode cX2_doers 0 = .ok (.iconst 0, 1) := by decide +kernel
theorem dX2_doers_1 : decode cX2_doers 1 = .ok (.istore_n 1, 1) := by decide +kernel
theorem dX2_doers_2 : decode cX2_doers 2 = .ok (.iconst 0, 1) := by decide +kernel
theorem dX2_doers_3 : decode cX2_doers 3 = .ok (.istore_n 2, 1) := by decide +kernel
theorem dX2_doers_4 : decode cX2_doers 4 = .ok (.iload_n 2, 1) := by decide +kernel
theorem dX2_doers_5 : decode cX2_doers 5 = .ok (.iconst 5, 1) := by decide +kernel
theorem dX2_doers_6 : decode cX2_doers 6 = .ok (.if_icmp .ge 26, 3) := by decide +kernel
theorem dX2_doers_9 : decode cX2_doers 9 = .ok (.iload_n 1, 1) := by decide +kernel
theorem dX2_doers_10 : decode cX2_doers 10 = .ok (.aload_n 0, 1) := by decide +kernel
theorem dX2_doers_11 : decode cX2_doers 11 = .ok (.iload_n 2, 1) := by decide +kernel
theorem dX2_doers_12 : decode cX2_doers 12 = .ok (.invokevirtual 45, 3) := by decide +kernel
theorem dX2_doers_15 : decode cX2_doers 15 = .ok (.iconst (-1), 1) := by decide +kernel
theorem dX2_doers_16 : decode cX2_doers 16 = .ok (.if_icmp .ne 7, 3) := by decide +kernel
theorem dX2_doers_19 : decode cX2_doers 19 = .ok (.iconst 0, 1) := by decide +kernel
theorem dX2_doers_20 : decode cX2_doers 20 = .ok (.goto 4, 3) := by decide +kernel
theorem dX2_doers_23 : decode cX2_doers 23 = .ok (.iconst 1, 1) := by decide +kernel
theorem dX2_doers_24 : decode cX2_doers 24 = .ok (.iadd, 1) := by decide +kernel
theorem dX2_doers_25 : decode cX2_doers 25 = .ok (.istore_n 1, 1) := by decide +kernel
theorem dX2_doers_26 : decode cX2_doers 26 = .ok (.iinc 2 1, 3) := by decide +kernel
theorem dX2_doers_29 : decode cX2_doers 29 = .ok (.goto (-25), 3) := by decide +kernel
theorem dX2_doers_32 : decode cX2_doers 32 = .ok (.iload_n 1, 1) := by decide +kernel
theorem dX2_doers_33 : decode cX2_doers 33 = .ok (.ireturn, 1) := by decide +kernel
theorem dX2_firstDoing_0 : decode cX2_firstDoing 0 = .ok (.iconst 0, 1) := by decide +kernel
theorem dX2_firstDoing_1 : decode cX2_firstDoing 1 = .ok (.istore_n 3, 1) := by decide +kernel
theorem dX2_firstDoing_2 : decode cX2_firstDoing 2 = .ok (.iload_n 3, 1) := by decide +kernel
theorem dX2_firstDoing_3 : decode cX2_firstDoing 3 = .ok (.iload_n 2, 1) := by decide +kernel
theorem dX2_firstDoing_4 : decode cX2_firstDoing 4 = .ok (.if_icmp .ge 20, 3) := by decide +kernel
theorem dX2_firstDoing_7 : decode cX2_firstDoing 7 = .ok (.aload_n 0, 1) := by decide +kernel
theorem dX2_firstDoing_8 : decode cX2_firstDoing 8 = .ok (.iload_n 3, 1) := by decide +kernel
theorem dX2_firstDoing_9 : decode cX2_firstDoing 9 = .ok (.invokevirtual 45, 3) := by decide +kernel
theorem dX2_firstDoing_12 : decode cX2_firstDoing 12 = .ok (.iload_n 1, 1) := by decide +kernel
theorem dX2_firstDoing_13 : decode cX2_firstDoing 13 = .ok (.if_icmp .ne 5, 3) := by decide +kernel
theorem dX2_firstDoing_16 : decode cX2_firstDoing 16 = .ok (.iload_n 3, 1) := by decide +kernel
theorem dX2_firstDoing_17 : decode cX2_firstDoing 17 = .ok (.ireturn, 1) := by decide +kernel
theorem dX2_firstDoing_18 : decode cX2_firstDoing 18 = .ok (.iinc 3 1, 3) := by decide +kernel
theorem dX2_firstDoing_21 : decode cX2_firstDoing 21 = .ok (.goto (-19), 3) := by decide +kernel
theorem dX2_firstDoing_24 : decode cX2_firstDoing 24 = .ok (.iconst (-1), 1) := by decide +kernel
theorem dX2_firstDoing_25 : decode cX2_firstDoing 25 = .ok (.ireturn, 1) := by decide +kernel
theorem dX2_whoSit_0 : decode cX2_whoSit 0 = .ok (.iconst 0, 1) := by decide +kernel
theorem dX2_whoSit_1 : decode cX2_whoSit 1 = .ok (.istore_n 1, 1) := by decide +kernel
theorem dX2_whoSit_2 : decode cX2_whoSit 2 = .ok (.iconst 0, 1) := by decide +kernel
theorem dX2_whoSit_3 : decode cX2_whoSit 3 = .ok (.istore_n 2, 1) := by decide +kernel
theorem dX2_whoSit_4 : decode cX2_whoSit 4 = .ok (.iload_n 2, 1) := by decide +kernel
theorem dX2_whoSit_5 : decode cX2_whoSit 5 = .ok (.iconst 5, 1) := by decide +kernel
theorem dX2_whoSit_6 : decode cX2_whoSit 6 = .ok (.if_icmp .ge 29, 3) := by decide +kernel
theorem dX2_whoSit_9 : decode cX2_whoSit 9 = .ok (.iload_n 1, 1) := by decide +kernel
theorem dX2_whoSit_10 : decode cX2_whoSit 10 = .ok (.aload_n 0, 1) := by decide +kernel
theorem dX2_whoSit_11 : decode cX2_whoSit 11 = .ok (.getfield 9, 3) := by decide +kernel
theorem dX2_whoSit_14 : decode cX2_whoSit 14 = .ok (.iload_n 2, 1) := by decide +kernel
theorem dX2_whoSit_15 : decode cX2_whoSit 15 = .ok (.iaload, 1) := by decide +kernel
theorem dX2_whoSit_16 : decode cX2_whoSit 16 = .ok (.iconst (-1), 1) := by decide +kernel
theorem dX2_whoSit_17 : decode cX2_whoSit 17 = .ok (.if_icmp .ne 7, 3) := by decide +kernel
theorem dX2_whoSit_20 : decode cX2_whoSit 20 = .ok (.iconst 0, 1) := by decide +kernel
theorem dX2_whoSit_21 : decode cX2_whoSit 21 = .ok (.goto 6, 3) := by decide +kernel
theorem dX2_whoSit_24 : decode cX2_whoSit 24 = .ok (.iconst 1, 1) := by decide +kernel
theorem dX2_whoSit_25 : decode cX2_whoSit 25 = .ok (.iload_n 2, 1) := by decide +kernel
theorem dX2_whoSit_26 : decode cX2_whoSit 26 = .ok (.ishl, 1) := by decide +kernel
theorem dX2_whoSit_27 : decode cX2_whoSit 27 = .ok (.ior, 1) := by decide +kernel
theorem dX2_whoSit_28 : decode cX2_whoSit 28 = .ok (.istore_n 1, 1) := by decide +kernel
theorem dX2_whoSit_29 : decode cX2_whoSit 29 = .ok (.iinc 2 1, 3) := by decide +kernel
theorem dX2_whoSit_32 : decode cX2_whoSit 32 = .ok (.goto (-28), 3) := by decide +kernel
theorem dX2_whoSit_35 : decode cX2_whoSit 35 = .ok (.iload_n 1, 1) := by decide +kernel
theorem dX2_whoSit_36 : decode cX2_whoSit 36 = .ok (.ireturn, 1) := by decide +kernel
theorem dX3_init_0 : decode cX3_init 0 = .ok (.aload_n 0, 1) := by decide +kernel
theorem dX3_init_1 : decode cX3_init 1 = .ok (.invokespecial 3, 3) := by decide +kernel
theorem dX3_init_4 : decode cX3_init 4 = .ok (.aload_n 0, 1) := by decide +kernel
theorem dX3_init_5 : decode cX3_init 5 = .ok (.iconst 5, 1) := by decide +kernel
theorem dX3_init_6 : decode cX3_init 6 = .ok (.newarray .int, 2) := by decide +kernel
theorem dX3_init_8 : decode cX3_init 8 = .ok (.putfield 9, 3) := by decide +kernel
theorem dX3_init_11 : decode cX3_init 11 = .ok (.aload_n 0, 1) := by decide +kernel
theorem dX3_init_12 : decode cX3_init 12 = .ok (.iconst 5, 1) := by decide +kernel
theorem dX3_init_13 : decode cX3_init 13 = .ok (.newarray .int, 2) := by decide +kernel
theorem dX3_init_15 : decode cX3_init 15 = .ok (.putfield 15, 3) := by decide +kernel
theorem dX3_init_18 : decode cX3_init 18 = .ok (.aload_n 0, 1) := by decide +kernel
theorem dX3_init_19 : decode cX3_init 19 = .ok (.bipush 40, 2) := by decide +kernel
theorem dX3_init_21 : decode cX3_init 21 = .ok (.newarray .int, 2) := by decide +kernel
theorem dX3_init_23 : decode cX3_init 23 = .ok (.putfield 18, 3) := by decide +kernel
theorem dX3_init_26 : decode cX3_init 26 = .ok (.aload_n 0, 1) := by decide +kernel
theorem dX3_init_27 : decode cX3_init 27 = .ok (.bipush 6, 2) := by decide +kernel
theorem dX3_init_29 : decode cX3_init 29 = .ok (.newarray .int, 2) := by decide +kernel
theorem dX3_init_31 : decode cX3_init 31 = .ok (.putfield 21, 3) := by decide +kernel
theorem dX3_init_34 : decode cX3_init 34 = .ok (.return_, 1) := by decide +kernel
theorem dX3_settle_0 : decode cX3_settle 0 = .ok (.aload_n 0, 1) := by decide +kernel
theorem dX3_settle_1 : decode cX3_settle 1 = .ok (.aload_n 1, 1) := by decide +kernel
theorem dX3_settle_2 : decode cX3_settle 2 = .ok (.getfield 24, 3) := by decide +kernel
theorem dX3_settle_5 : decode cX3_settle 5 = .ok (.putfield 30, 3) := by decide +kernel
theorem dX3_settle_8 : decode cX3_settle 8 = .ok (.aload_n 0, 1) := by decide +kernel
theorem dX3_settle_9 : decode cX3_settle 9 = .ok (.aload_n 1, 1) := by decide +kernel
theorem dX3_settle_10 : decode cX3_settle 10 = .ok (.getfield 31, 3) := by decide +kernel
theorem dX3_settle_13 : decode cX3_settle 13 = .ok (.putfield 34, 3) := by decide +kernel
theorem dX3_settle_16 : decode cX3_settle 16 = .ok (.aload_n 0, 1) := by decide +kernel
theorem dX3_settle_17 : decode cX3_settle 17 = .ok (.getfield 21, 3) := by decide +kernel
theorem dX3_settle_20 : decode cX3_settle 20 = .ok (.aload_n 0, 1) := by decide +kernel
theorem dX3_settle_21 : decode cX3_settle 21 = .ok (.getfield 34, 3) := by decide +kernel
theorem dX3_settle_24 : decode cX3_settle 24 = .ok (.iconst 0, 1) := by decide +kernel
theorem dX3_settle_25 : decode cX3_settle 25 = .ok (.iastore, 1) := by decide +kernel
theorem dX3_settle_26 : decode cX3_settle 26 = .ok (.aload_n 0, 1) := by decide +kernel
theorem dX3_settle_27 : decode cX3_settle 27 = .ok (.getfield 34, 3) := by decide +kernel
theorem dX3_settle_30 : decode cX3_settle 30 = .ok (.iconst 1, 1) := by decide +kernel
theorem dX3_settle_31 : decode cX3_settle 31 = .ok (.isub, 1) := by decide +kernel
theorem dX3_settle_32 : decode cX3_settle 32 = .ok (.istore 4, 2) := by decide +kernel
theorem dX3_settle_34 : decode cX3_settle 34 = .ok (.iload 4, 2) := by decide +kernel
theorem dX3_settle_36 : decode cX3_settle 36 = .ok (.ifCond .lt 87, 3) := by decide +kernel
theorem dX3_settle_39 : decode cX3_settle 39 = .ok (.iconst 0, 1) := by decide +kernel
theorem dX3_settle_40 : decode cX3_settle 40 = .ok (.istore 5, 2) := by decide +kernel
theorem dX3_settle_42 : decode cX3_settle 42 = .ok (.iconst (-1), 1) := by decide +kernel
theorem dX3_settle_43 : decode cX3_settle 43 = .ok (.istore 6, 2) := by decide +kernel
theorem dX3_settle_45 : decode cX3_settle 45 = .ok (.iload 6, 2) := by decide +kernel
theorem dX3_settle_47 : decode cX3_settle 47 = .ok (.aload_n 0, 1) := by decide +kernel
theorem dX3_settle_48 : decode cX3_settle 48 = .ok (.getfield 30, 3) := by decide +kernel
theorem dX3_settle_51 : decode cX3_settle 51 = .ok (.if_icmp .ge 47, 3) := by decide +kernel
theorem dX3_settle_54 : decode cX3_settle 54 = .ok (.aload_n 1, 1) := by decide +kernel
theorem dX3_settle_55 : decode cX3_settle 55 = .ok (.aload_n 2, 1) := by decide +kernel
theorem dX3_settle_56 : decode cX3_settle 56 = .ok (.iload 4, 2) := by decide +kernel
theorem dX3_settle_58 : decode cX3_settle 58 = .ok (.iload 6, 2) := by decide +kernel
theorem dX3_settle_60 : decode cX3_settle 60 = .ok (.iload_n 3, 1) := by decide +kernel
theorem dX3_settle_61 : decode cX3_settle 61 = .ok (.invokestatic 35, 3) := by decide +kernel
theorem dX3_settle_64 : decode cX3_settle 64 = .ok (.istore 7, 2) := by decide +kernel
theorem dX3_settle_66 : decode cX3_settle 66 = .ok (.aload_n 0, 1) := by decide +kernel
theorem dX3_settle_67 : decode cX3_settle 67 = .ok (.getfield 18, 3) := by decide +kernel
theorem dX3_settle_70 : decode cX3_settle 70 = .ok (.iload 4, 2) := by decide +kernel
theorem dX3_settle_72 : decode cX3_settle 72 = .ok (.bipush 8, 2) := by decide +kernel
theorem dX3_settle_74 : decode cX3_settle 74 = .ok (.imul, 1) := by decide +kernel
theorem dX3_settle_75 : decode cX3_settle 75 = .ok (.iload 6, 2) := by decide +kernel
theorem dX3_settle_77 : decode cX3_settle 77 = .ok (.iadd, 1) := by decide +kernel
theorem dX3_settle_78 : decode cX3_settle 78 = .ok (.iconst 1, 1) := by decide +kernel
theorem dX3_settle_79 : decode cX3_settle 79 = .ok (.iadd, 1) := by decide +kernel
theorem dX3_settle_80 : decode cX3_settle 80 = .ok (.iload 7, 2) := by decide +kernel
theorem dX3_settle_82 : decode cX3_settle 82 = .ok (.iastore, 1) := by decide +kernel
theorem dX3_settle_83 : decode cX3_settle 83 = .ok (.iload 5, 2) := by decide +kernel
theorem dX3_settle_85 : decode cX3_settle 85 = .ok (.iload 7, 2) := by decide +kernel
theorem dX3_settle_87 : decode cX3_settle 87 = .ok (.invokestatic 39, 3) := by decide +kernel
theorem dX3_settle_90 : decode cX3_settle 90 = .ok (.istore 5, 2) := by decide +kernel
theorem dX3_settle_92 : decode cX3_settle 92 = .ok (.iinc 6 1, 3) := by decide +kernel
theorem dX3_settle_95 : decode cX3_settle 95 = .ok (.goto (-50), 3) := by decide +kernel
theorem dX3_settle_98 : decode cX3_settle 98 = .ok (.aload_n 0, 1) := by decide +kernel
theorem dX3_settle_99 : decode cX3_settle 99 = .ok (.getfield 21, 3) := by decide +kernel
theorem dX3_settle_102 : decode cX3_settle 102 = .ok (.iload 4, 2) := by decide +kernel
theorem dX3_settle_104 : decode cX3_settle 104 = .ok (.aload_n 0, 1) := by decide +kernel
theorem dX3_settle_105 : decode cX3_settle 105 = .ok (.getfield 21, 3) := by decide +kernel
theorem dX3_settle_108 : decode cX3_settle 108 = .ok (.iload 4, 2) := by decide +kernel
theorem dX3_settle_110 : decode cX3_settle 110 = .ok (.iconst 1, 1) := by decide +kernel
theorem dX3_settle_111 : decode cX3_settle 111 = .ok (.iadd, 1) := by decide +kernel
theorem dX3_settle_112 : decode cX3_settle 112 = .ok (.iaload, 1) := by decide +kernel
theorem dX3_settle_113 : decode cX3_settle 113 = .ok (.iload 5, 2) := by decide +kernel
theorem dX3_settle_115 : decode cX3_settle 115 = .ok (.iadd, 1) := by decide +kernel
theorem dX3_settle_116 : decode cX3_settle 116 = .ok (.iastore, 1) := by decide +kernel
theorem dX3_settle_117 : decode cX3_settle 117 = .ok (.iinc 4 (-1), 3) := by decide +kernel
theorem dX3_settle_120 : decode cX3_settle 120 = .ok (.goto (-86), 3) := by decide +kernel
theorem dX3_settle_123 : decode cX3_settle 123 = .ok (.aload_n 0, 1) := by decide +kernel
theorem dX3_settle_124 : decode cX3_settle 124 = .ok (.iconst (-1), 1) := by decide +kernel
theorem dX3_settle_125 : decode cX3_settle 125 = .ok (.putfield 45, 3) := by decide +kernel
theorem dX3_settle_128 : decode cX3_settle 128 = .ok (.aload_n 0, 1) := by decide +kernel
theorem dX3_settle_129 : decode cX3_settle 129 = .ok (.iconst 0, 1) := by decide +kernel
theorem dX3_settle_130 : decode cX3_settle 130 = .ok (.iconst 0, 1) := by decide +kernel
theorem dX3_settle_131 : decode cX3_settle 131 = .ok (.iconst 0, 1) := by decide +kernel
theorem dX3_settle_132 : decode cX3_settle 132 = .ok (.invokestatic 48, 3) := by decide +kernel
theorem dX3_settle_135 : decode cX3_settle 135 = .ok (.return_, 1) := by decide +kernel
theorem dX3_wishesCome_0 : decode cX3_wishesCome 0 = .ok (.aload_n 1, 1) := by decide +kernel
theorem dX3_wishesCome_1 : decode cX3_wishesCome 1 = .ok (.aload_n 0, 1) := by decide +kernel
theorem dX3_wishesCome_2 : decode cX3_wishesCome 2 = .ok (.getfield 52, 3) := by decide +kernel
theorem dX3_wishesCome_5 : decode cX3_wishesCome 5 = .ok (.invokevirtual 56, 3) := by decide +kernel
theorem dX3_wishesCome_8 : decode cX3_wishesCome 8 = .ok (.aload_n 1, 1) := by decide +kernel
theorem dX3_wishesCome_9 : decode cX3_wishesCome 9 = .ok (.getfield 62, 3) := by decide +kernel
theorem dX3_wishesCome_12 : decode cX3_wishesCome 12 = .ok (.iload_n 2, 1) := by decide +kernel
theorem dX3_wishesCome_13 : decode cX3_wishesCome 13 = .ok (.iload_n 3, 1) := by decide +kernel
theorem dX3_wishesCome_14 : decode cX3_wishesCome 14 = .ok (.iastore, 1) := by decide +kernel
theorem dX3_wishesCome_15 : decode cX3_wishesCome 15 = .ok (.iconst 0, 1) := by decide +kernel
theorem dX3_wishesCome_16 : decode cX3_wishesCome 16 = .ok (.istore 5, 2) := by decide +kernel
theorem dX3_wishesCome_18 : decode cX3_wishesCome 18 = .ok (.iload 5, 2) := by decide +kernel
theorem dX3_wishesCome_20 : decode cX3_wishesCome 20 = .ok (.iload 4, 2) := by decide +kernel
theorem dX3_wishesCome_22 : decode cX3_wishesCome 22 = .ok (.if_icmp .ge 25, 3) := by decide +kernel
theorem dX3_wishesCome_25 : decode cX3_wishesCome 25 = .ok (.aload_n 0, 1) := by decide +kernel
theorem dX3_wishesCome_26 : decode cX3_wishesCome 26 = .ok (.aload_n 1, 1) := by decide +kernel
theorem dX3_wishesCome_27 : decode cX3_wishesCome 27 = .ok (.iload_n 2, 1) := by decide +kernel
theorem dX3_wishesCome_28 : decode cX3_wishesCome 28 = .ok (.invokevirtual 65, 3) := by decide +kernel
theorem dX3_wishesCome_31 : decode cX3_wishesCome 31 = .ok (.aload_n 1, 1) := by decide +kernel
theorem dX3_wishesCome_32 : decode cX3_wishesCome 32 = .ok (.dup, 1) := by decide +kernel
theorem dX3_wishesCome_33 : decode cX3_wishesCome 33 = .ok (.getfield 69, 3) := by decide +kernel
theorem dX3_wishesCome_36 : decode cX3_wishesCome 36 = .ok (.iconst 1, 1) := by decide +kernel
theorem dX3_wishesCome_37 : decode cX3_wishesCome 37 = .ok (.iadd, 1) := by decide +kernel
theorem dX3_wishesCome_38 : decode cX3_wishesCome 38 = .ok (.putfield 69, 3) := by decide +kernel
theorem dX3_wishesCome_41 : decode cX3_wishesCome 41 = .ok (.iinc 5 1, 3) := by decide +kernel
theorem dX3_wishesCome_44 : decode cX3_wishesCome 44 = .ok (.goto (-26), 3) := by decide +kernel
theorem dX3_wishesCome_47 : decode cX3_wishesCome 47 = .ok (.iconst 0, 1) := by decide +kernel
theorem dX3_wishesCome_48 : decode cX3_wishesCome 48 = .ok (.istore 5, 2) := by decide +kernel
theorem dX3_wishesCome_50 : decode cX3_wishesCome 50 = .ok (.iconst 0, 1) := by decide +kernel
theorem dX3_wishesCome_51 : decode cX3_wishesCome 51 = .ok (.istore 6, 2) := by decide +kernel
theorem dX3_wishesCome_53 : decode cX3_wishesCome 53 = .ok (.iload 6, 2) := by decide +kernel
theorem dX3_wishesCome_55 : decode cX3_wishesCome 55 = .ok (.aload_n 0, 1) := by decide +kernel
theorem dX3_wishesCome_56 : decode cX3_wishesCome 56 = .ok (.getfield 72, 3) := by decide +kernel
theorem dX3_wishesCome_59 : decode cX3_wishesCome 59 = .ok (.getfield 76, 3) := by decide +kernel
theorem dX3_wishesCome_62 : decode cX3_wishesCome 62 = .ok (.if_icmp .ge 73, 3) := by decide +kernel
theorem dX3_wishesCome_65 : decode cX3_wishesCome 65 = .ok (.aload_n 0, 1) := by decide +kernel
theorem dX3_wishesCome_66 : decode cX3_wishesCome 66 = .ok (.getfield 72, 3) := by decide +kernel
theorem dX3_wishesCome_69 : decode cX3_wishesCome 69 = .ok (.iload 6, 2) := by decide +kernel
theorem dX3_wishesCome_71 : decode cX3_wishesCome 71 = .ok (.iconst 0, 1) := by decide +kernel
theorem dX3_wishesCome_72 : decode cX3_wishesCome 72 = .ok (.invokevirtual 81, 3) := by decide +kernel
theorem dX3_wishesCome_75 : decode cX3_wishesCome 75 = .ok (.iload_n 2, 1) := by decide +kernel
theorem dX3_wishesCome_76 : decode cX3_wishesCome 76 = .ok (.if_icmp .ne 7, 3) := by decide +kernel
theorem dX3_wishesCome_79 : decode cX3_wishesCome 79 = .ok (.iconst 1, 1) := by decide +kernel
theorem dX3_wishesCome_80 : decode cX3_wishesCome 80 = .ok (.goto 4, 3) := by decide +kernel
theorem dX3_wishesCome_83 : decode cX3_wishesCome 83 = .ok (.iconst 0, 1) := by decide +kernel
theorem dX3_wishesCome_84 : decode cX3_wishesCome 84 = .ok (.istore 7, 2) := by decide +kernel
theorem dX3_wishesCome_86 : decode cX3_wishesCome 86 = .ok (.iload 5, 2) := by decide +kernel
theorem dX3_wishesCome_88 : decode cX3_wishesCome 88 = .ok (.iload 7, 2) := by decide +kernel
theorem dX3_wishesCome_90 : decode cX3_wishesCome 90 = .ok (.ifCond .eq 35, 3) := by decide +kernel
theorem dX3_wishesCome_93 : decode cX3_wishesCome 93 = .ok (.aload_n 1, 1) := by decide +kernel
theorem dX3_wishesCome_94 : decode cX3_wishesCome 94 = .ok (.iload_n 2, 1) := by decide +kernel
theorem dX3_wishesCome_95 : decode cX3_wishesCome 95 = .ok (.aload_n 0, 1) := by decide +kernel
theorem dX3_wishesCome_96 : decode cX3_wishesCome 96 = .ok (.getfield 72, 3) := by decide +kernel
theorem dX3_wishesCome_99 : decode cX3_wishesCome 99 = .ok (.iload 6, 2) := by decide +kernel
theorem dX3_wishesCome_101 : decode cX3_wishesCome 101 = .ok (.iconst 1, 1) := by decide +kernel
theorem dX3_wishesCome_102 : decode cX3_wishesCome 102 = .ok (.invokevirtual 81, 3) := by decide +kernel
theorem dX3_wishesCome_105 : decode cX3_wishesCome 105 = .ok (.invokevirtual 84, 3) := by decide +kernel
theorem dX3_wishesCome_108 : decode cX3_wishesCome 108 = .ok (.aload_n 0, 1) := by decide +kernel
theorem dX3_wishesCome_109 : decode cX3_wishesCome 109 = .ok (.getfield 72, 3) := by decide +kernel
theorem dX3_wishesCome_112 : decode cX3_wishesCome 112 = .ok (.iload 6, 2) := by decide +kernel
theorem dX3_wishesCome_114 : decode cX3_wishesCome 114 = .ok (.iconst 2, 1) := by decide +kernel
theorem dX3_wishesCome_115 : decode cX3_wishesCome 115 = .ok (.invokevirtual 81, 3) := by decide +kernel
theorem dX3_wishesCome_118 : decode cX3_wishesCome 118 = .ok (.if_icmp .lt 7, 3) := by decide +kernel
theorem dX3_wishesCome_121 : decode cX3_wishesCome 121 = .ok (.iconst 1, 1) := by decide +kernel
theorem dX3_wishesCome_122 : decode cX3_wishesCome 122 = .ok (.goto 4, 3) := by decide +kernel
theorem dX3_wishesCome_125 : decode cX3_wishesCome 125 = .ok (.iconst 0, 1) := by decide +kernel
theorem dX3_wishesCome_126 : decode cX3_wishesCome 126 = .ok (.iadd, 1) := by decide +kernel
theorem dX3_wishesCome_127 : decode cX3_wishesCome 127 = .ok (.istore 5, 2) := by decide +kernel
theorem dX3_wishesCome_129 : decode cX3_wishesCome 129 = .ok (.iinc 6 1, 3) := by decide +kernel
theorem dX3_wishesCome_132 : decode cX3_wishesCome 132 = .ok (.goto (-79), 3) := by decide +kernel
theorem dX3_wishesCome_135 : decode cX3_wishesCome 135 = .ok (.iload 5, 2) := by decide +kernel
theorem dX3_wishesCome_137 : decode cX3_wishesCome 137 = .ok (.ireturn, 1) := by decide +kernel
theorem dX3_tryFrom_0 : decode cX3_tryFrom 0 = .ok (.iload_n 3, 1) := by decide +kernel
theorem dX3_tryFrom_1 : decode cX3_tryFrom 1 = .ok (.aload_n 0, 1) := by decide +kernel
theorem dX3_tryFrom_2 : decode cX3_tryFrom 2 = .ok (.getfield 21, 3) := by decide +kernel
theorem dX3_tryFrom_5 : decode cX3_tryFrom 5 = .ok (.iload_n 1, 1) := by decide +kernel
theorem dX3_tryFrom_6 : decode cX3_tryFrom 6 = .ok (.iaload, 1) := by decide +kernel
theorem dX3_tryFrom_7 : decode cX3_tryFrom 7 = .ok (.iadd, 1) := by decide +kernel
theorem dX3_tryFrom_8 : decode cX3_tryFrom 8 = .ok (.aload_n 0, 1) := by decide +kernel
theorem dX3_tryFrom_9 : decode cX3_tryFrom 9 = .ok (.getfield 45, 3) := by decide +kernel
theorem dX3_tryFrom_12 : decode cX3_tryFrom 12 = .ok (.if_icmp .gt 4, 3) := by decide +kernel
theorem dX3_tryFrom_15 : decode cX3_tryFrom 15 = .ok (.return_, 1) := by decide +kernel
theorem dX3_tryFrom_16 : decode cX3_tryFrom 16 = .ok (.iload_n 1, 1) := by decide +kernel
theorem dX3_tryFrom_17 : decode cX3_tryFrom 17 = .ok (.aload_n 0, 1) := by decide +kernel
theorem dX3_tryFrom_18 : decode cX3_tryFrom 18 = .ok (.getfield 34, 3) := by decide +kernel
theorem dX3_tryFrom_21 : decode cX3_tryFrom 21 = .ok (.if_icmp .lt 23, 3) := by decide +kernel
theorem dX3_tryFrom_24 : decode cX3_tryFrom 24 = .ok (.aload_n 0, 1) := by decide +kernel
theorem dX3_tryFrom_25 : decode cX3_tryFrom 25 = .ok (.iload_n 3, 1) := by decide +kernel
theorem dX3_tryFrom_26 : decode cX3_tryFrom 26 = .ok (.putfield 45, 3) := by decide +kernel
theorem dX3_tryFrom_29 : decode cX3_tryFrom 29 = .ok (.aload_n 0, 1) := by decide +kernel
theorem dX3_tryFrom_30 : decode cX3_tryFrom 30 = .ok (.getfield 15, 3) := by decide +kernel
theorem dX3_tryFrom_33 : decode cX3_tryFrom 33 = .ok (.iconst 0, 1) := by decide +kernel
theorem dX3_tryFrom_34 : decode cX3_tryFrom 34 = .ok (.aload_n 0, 1) := by decide +kernel
theorem dX3_tryFrom_35 : decode cX3_tryFrom 35 = .ok (.getfield 9, 3) := by decide +kernel
theorem dX3_tryFrom_38 : decode cX3_tryFrom 38 = .ok (.iconst 0, 1) := by decide +kernel
theorem dX3_tryFrom_39 : decode cX3_tryFrom 39 = .ok (.iconst 5, 1) := by decide +kernel
theorem dX3_tryFrom_40 : decode cX3_tryFrom 40 = .ok (.invokestatic 87, 3) := by decide +kernel
theorem dX3_tryFrom_43 : decode cX3_tryFrom 43 = .ok (.return_, 1) := by decide +kernel
theorem dX3_tryFrom_44 : decode cX3_tryFrom 44 = .ok (.iconst (-1), 1) := by decide +kernel
theorem dX3_tryFrom_45 : decode cX3_tryFrom 45 = .ok (.istore 4, 2) := by decide +kernel
theorem dX3_tryFrom_47 : decode cX3_tryFrom 47 = .ok (.iload 4, 2) := by decide +kernel
theorem dX3_tryFrom_49 : decode cX3_tryFrom 49 = .ok (.aload_n 0, 1) := by decide +kernel
theorem dX3_tryFrom_50 : decode cX3_tryFrom 50 = .ok (.getfield 30, 3) := by decide +kernel
theorem dX3_tryFrom_53 : decode cX3_tryFrom 53 = .ok (.if_icmp .ge 67, 3) := by decide +kernel
theorem dX3_tryFrom_56 : decode cX3_tryFrom 56 = .ok (.iload 4, 2) := by decide +kernel
theorem dX3_tryFrom_58 : decode cX3_tryFrom 58 = .ok (.iconst (-1), 1) := by decide +kernel
theorem dX3_tryFrom_59 : decode cX3_tryFrom 59 = .ok (.if_icmp .ne 7, 3) := by decide +kernel
theorem dX3_tryFrom_62 : decode cX3_tryFrom 62 = .ok (.iconst 0, 1) := by decide +kernel
theorem dX3_tryFrom_63 : decode cX3_tryFrom 63 = .ok (.goto 7, 3) := by decide +kernel
theorem dX3_tryFrom_66 : decode cX3_tryFrom 66 = .ok (.iconst 1, 1) := by decide +kernel
theorem dX3_tryFrom_67 : decode cX3_tryFrom 67 = .ok (.iload 4, 2) := by decide +kernel
theorem dX3_tryFrom_69 : decode cX3_tryFrom 69 = .ok (.ishl, 1) := by decide +kernel
theorem dX3_tryFrom_70 : decode cX3_tryFrom 70 = .ok (.istore 5, 2) := by decide +kernel
theorem dX3_tryFrom_72 : decode cX3_tryFrom 72 = .ok (.iload_n 2, 1) := by decide +kernel
theorem dX3_tryFrom_73 : decode cX3_tryFrom 73 = .ok (.iload 5, 2) := by decide +kernel
theorem dX3_tryFrom_75 : decode cX3_tryFrom 75 = .ok (.iand, 1) := by decide +kernel
theorem dX3_tryFrom_76 : decode cX3_tryFrom 76 = .ok (.ifCond .ne 38, 3) := by decide +kernel
theorem dX3_tryFrom_79 : decode cX3_tryFrom 79 = .ok (.aload_n 0, 1) := by decide +kernel
theorem dX3_tryFrom_80 : decode cX3_tryFrom 80 = .ok (.getfield 15, 3) := by decide +kernel
theorem dX3_tryFrom_83 : decode cX3_tryFrom 83 = .ok (.iload_n 1, 1) := by decide +kernel
theorem dX3_tryFrom_84 : decode cX3_tryFrom 84 = .ok (.iload 4, 2) := by decide +kernel
theorem dX3_tryFrom_86 : decode cX3_tryFrom 86 = .ok (.iastore, 1) := by decide +kernel
theorem dX3_tryFrom_87 : decode cX3_tryFrom 87 = .ok (.aload_n 0, 1) := by decide +kernel
theorem dX3_tryFrom_88 : decode cX3_tryFrom 88 = .ok (.iload_n 1, 1) := by decide +kernel
theorem dX3_tryFrom_89 : decode cX3_tryFrom 89 = .ok (.iconst 1, 1) := by decide +kernel
theorem dX3_tryFrom_90 : decode cX3_tryFrom 90 = .ok (.iadd, 1) := by decide +kernel
theorem dX3_tryFrom_91 : decode cX3_tryFrom 91 = .ok (.iload_n 2, 1) := by decide +kernel
theorem dX3_tryFrom_92 : decode cX3_tryFrom 92 = .ok (.iload 5, 2) := by decide +kernel
theorem dX3_tryFrom_94 : decode cX3_tryFrom 94 = .ok (.ior, 1) := by decide +kernel
theorem dX3_tryFrom_95 : decode cX3_tryFrom 95 = .ok (.iload_n 3, 1) := by decide +kernel
theorem dX3_tryFrom_96 : decode cX3_tryFrom 96 = .ok (.aload_n 0, 1) := by decide +kernel
theorem dX3_tryFrom_97 : decode cX3_tryFrom 97 = .ok (.getfield 18, 3) := by decide +kernel
theorem dX3_tryFrom_100 : decode cX3_tryFrom 100 = .ok (.iload_n 1, 1) := by decide +kernel
theorem dX3_tryFrom_101 : decode cX3_tryFrom 101 = .ok (.bipush 8, 2) := by decide +kernel
theorem dX3_tryFrom_103 : decode cX3_tryFrom 103 = .ok (.imul, 1) := by decide +kernel
theorem dX3_tryFrom_104 : decode cX3_tryFrom 104 = .ok (.iload 4, 2) := by decide +kernel
theorem dX3_tryFrom_106 : decode cX3_tryFrom 106 = .ok (.iadd, 1) := by decide +kernel
theorem dX3_tryFrom_107 : decode cX3_tryFrom 107 = .ok (.iconst 1, 1) := by decide +kernel
theorem dX3_tryFrom_108 : decode cX3_tryFrom 108 = .ok (.iadd, 1) := by decide +kernel
theorem dX3_tryFrom_109 : decode cX3_tryFrom 109 = .ok (.iaload, 1) := by decide +kernel
theorem dX3_tryFrom_110 : decode cX3_tryFrom 110 = .ok (.iadd, 1) := by decide +kernel
theorem dX3_tryFrom_111 : decode cX3_tryFrom 111 = .ok (.invokestatic 48, 3) := by decide +kernel
theorem dX3_tryFrom_114 : decode cX3_tryFrom 114 = .ok (.iinc 4 1, 3) := by decide +kernel
theorem dX3_tryFrom_117 : decode cX3_tryFrom 117 = .ok (.goto (-70), 3) := by decide +kernel
theorem dX3_tryFrom_120 : decode cX3_tryFrom 120 = .ok (.return_, 1) := by decide +kernel
theorem dX4_init_0 : decode cX4_init 0 = .ok (.aload_n 0, 1) := by decide +kernel
theorem dX4_init_1 : decode cX4_init 1 = .ok (.invokespecial 3, 3) := by decide +kernel
theorem dX4_init_4 : decode cX4_init 4 = .ok (.aload_n 0, 1) := by decide +kernel
theorem dX4_init_5 : decode cX4_init 5 = .ok (.sipush 150, 3) := by decide +kernel
theorem dX4_init_8 : decode cX4_init 8 = .ok (.newarray .byte, 2) := by decide +kernel
theorem dX4_init_10 : decode cX4_init 10 = .ok (.putfield 11, 3) := by decide +kernel
theorem dX4_init_13 : decode cX4_init 13 = .ok (.aload_n 0, 1) := by decide +kernel
theorem dX4_init_14 : decode cX4_init 14 = .ok (.iconst 3, 1) := by decide +kernel
theorem dX4_init_15 : decode cX4_init 15 = .ok (.newarray .int, 2) := by decide +kernel
theorem dX4_init_17 : decode cX4_init 17 = .ok (.putfield 15, 3) := by decide +kernel
theorem dX4_init_20 : decode cX4_init 20 = .ok (.return_, 1) := by decide +kernel
theorem dX4_tell_0 : decode cX4_tell 0 = .ok (.aload_n 1, 1) := by decide +kernel
theorem dX4_tell_1 : decode cX4_tell 1 = .ok (.invokevirtual 19, 3) := by decide +kernel
theorem dX4_tell_4 : decode cX4_tell 4 = .ok (.aload_n 0, 1) := by decide +kernel
theorem dX4_tell_5 : decode cX4_tell 5 = .ok (.iconst 0, 1) := by decide +kernel
theorem dX4_tell_6 : decode cX4_tell 6 = .ok (.putfield 24, 3) := by decide +kernel
theorem dX4_tell_9 : decode cX4_tell 9 = .ok (.iconst 0, 1) := by decide +kernel
theorem dX4_tell_10 : decode cX4_tell 10 = .ok (.istore_n 2, 1) := by decide +kernel
theorem dX4_tell_11 : decode cX4_tell 11 = .ok (.iload_n 2, 1) := by decide +kernel
theorem dX4_tell_12 : decode cX4_tell 12 = .ok (.sipush 150, 3) := by decide +kernel
theorem dX4_tell_15 : decode cX4_tell 15 = .ok (.if_icmp .gt 161, 3) := by decide +kernel
theorem dX4_tell_18 : decode cX4_tell 18 = .ok (.aload_n 0, 1) := by decide +kernel
theorem dX4_tell_19 : decode cX4_tell 19 = .ok (.invokevirtual 28, 3) := by decide +kernel
theorem dX4_tell_22 : decode cX4_tell 22 = .ok (.aload_n 0, 1) := by decide +kernel
theorem dX4_tell_23 : decode cX4_tell 23 = .ok (.getfield 31, 3) := by decide +kernel
theorem dX4_tell_26 : decode cX4_tell 26 = .ok (.ifCond .ne 9, 3) := by decide +kernel
theorem dX4_tell_29 : decode cX4_tell 29 = .ok (.iload_n 2, 1) := by decide +kernel
theorem dX4_tell_30 : decode cX4_tell 30 = .ok (.ifCond .le 5, 3) := by decide +kernel
theorem dX4_tell_33 : decode cX4_tell 33 = .ok (.iload_n 2, 1) := by decide +kernel
theorem dX4_tell_34 : decode cX4_tell 34 = .ok (.ireturn, 1) := by decide +kernel
theorem dX4_tell_35 : decode cX4_tell 35 = .ok (.aload_n 0, 1) := by decide +kernel
theorem dX4_tell_36 : decode cX4_tell 36 = .ok (.aload_n 1, 1) := by decide +kernel
theorem dX4_tell_37 : decode cX4_tell 37 = .ok (.iload_n 2, 1) := by decide +kernel
theorem dX4_tell_38 : decode cX4_tell 38 = .ok (.ifCond .ne 7, 3) := by decide +kernel
theorem dX4_tell_41 : decode cX4_tell 41 = .ok (.iconst 1, 1) := by decide +kernel
theorem dX4_tell_42 : decode cX4_tell 42 = .ok (.goto 4, 3) := by decide +kernel
theorem dX4_tell_45 : decode cX4_tell 45 = .ok (.iconst 0, 1) := by decide +kernel
theorem dX4_tell_46 : decode cX4_tell 46 = .ok (.invokevirtual 34, 3) := by decide +kernel
theorem dX4_tell_49 : decode cX4_tell 49 = .ok (.ifCond .ne 5, 3) := by decide +kernel
theorem dX4_tell_52 : decode cX4_tell 52 = .ok (.iconst (-1), 1) := by decide +kernel
theorem dX4_tell_53 : decode cX4_tell 53 = .ok (.ireturn, 1) := by decide +kernel
theorem dX4_tell_54 : decode cX4_tell 54 = .ok (.aload_n 0, 1) := by decide +kernel
theorem dX4_tell_55 : decode cX4_tell 55 = .ok (.getfield 38, 3) := by decide +kernel
theorem dX4_tell_58 : decode cX4_tell 58 = .ok (.tableswitch 112 1 4 #[30, 56, 76, 99], 30) := by decide +kernel
theorem dX4_tell_88 : decode cX4_tell 88 = .ok (.aload_n 1, 1) := by decide +kernel
theorem dX4_tell_89 : decode cX4_tell 89 = .ok (.aload_n 0, 1) := by decide +kernel
theorem dX4_tell_90 : decode cX4_tell 90 = .ok (.getfield 15, 3) := by decide +kernel
theorem dX4_tell_93 : decode cX4_tell 93 = .ok (.iconst 0, 1) := by decide +kernel
theorem dX4_tell_94 : decode cX4_tell 94 = .ok (.iaload, 1) := by decide +kernel
theorem dX4_tell_95 : decode cX4_tell 95 = .ok (.aload_n 0, 1) := by decide +kernel
theorem dX4_tell_96 : decode cX4_tell 96 = .ok (.getfield 15, 3) := by decide +kernel
theorem dX4_tell_99 : decode cX4_tell 99 = .ok (.iconst 1, 1) := by decide +kernel
theorem dX4_tell_100 : decode cX4_tell 100 = .ok (.iaload, 1) := by decide +kernel
theorem dX4_tell_101 : decode cX4_tell 101 = .ok (.aload_n 0, 1) := by decide +kernel
theorem dX4_tell_102 : decode cX4_tell 102 = .ok (.getfield 15, 3) := by decide +kernel
theorem dX4_tell_105 : decode cX4_tell 105 = .ok (.iconst 2, 1) := by decide +kernel
theorem dX4_tell_106 : decode cX4_tell 106 = .ok (.iaload, 1) := by decide +kernel
theorem dX4_tell_107 : decode cX4_tell 107 = .ok (.invokevirtual 41, 3) := by decide +kernel
theorem dX4_tell_110 : decode cX4_tell 110 = .ok (.pop, 1) := by decide +kernel
theorem dX4_tell_111 : decode cX4_tell 111 = .ok (.goto 59, 3) := by decide +kernel
theorem dX4_tell_114 : decode cX4_tell 114 = .ok (.aload_n 1, 1) := by decide +kernel
theorem dX4_tell_115 : decode cX4_tell 115 = .ok (.aload_n 0, 1) := by decide +kernel
theorem dX4_tell_116 : decode cX4_tell 116 = .ok (.getfield 15, 3) := by decide +kernel
theorem dX4_tell_119 : decode cX4_tell 119 = .ok (.iconst 0, 1) := by decide +kernel
theorem dX4_tell_120 : decode cX4_tell 120 = .ok (.iaload, 1) := by decide +kernel
theorem dX4_tell_121 : decode cX4_tell 121 = .ok (.aload_n 0, 1) := by decide +kernel
theorem dX4_tell_122 : decode cX4_tell 122 = .ok (.getfield 15, 3) := by decide +kernel
theorem dX4_tell_125 : decode cX4_tell 125 = .ok (.iconst 1, 1) := by decide +kernel
theorem dX4_tell_126 : decode cX4_tell 126 = .ok (.iaload, 1) := by decide +kernel
theorem dX4_tell_127 : decode cX4_tell 127 = .ok (.invokevirtual 45, 3) := by decide +kernel
theorem dX4_tell_130 : decode cX4_tell 130 = .ok (.pop, 1) := by decide +kernel
theorem dX4_tell_131 : decode cX4_tell 131 = .ok (.goto 39, 3) := by decide +kernel
theorem dX4_tell_134 : decode cX4_tell 134 = .ok (.aload_n 1, 1) := by decide +kernel
theorem dX4_tell_135 : decode cX4_tell 135 = .ok (.getfield 49, 3) := by decide +kernel
theorem dX4_tell_138 : decode cX4_tell 138 = .ok (.getfield 53, 3) := by decide +kernel
theorem dX4_tell_141 : decode cX4_tell 141 = .ok (.aload_n 0, 1) := by decide +kernel
theorem dX4_tell_142 : decode cX4_tell 142 = .ok (.getfield 15, 3) := by decide +kernel
theorem dX4_tell_145 : decode cX4_tell 145 = .ok (.iconst 0, 1) := by decide +kernel
theorem dX4_tell_146 : decode cX4_tell 146 = .ok (.iaload, 1) := by decide +kernel
theorem dX4_tell_147 : decode cX4_tell 147 = .ok (.aload_n 0, 1) := by decide +kernel
theorem dX4_tell_148 : decode cX4_tell 148 = .ok (.getfield 15, 3) := by decide +kernel
theorem dX4_tell_151 : decode cX4_tell 151 = .ok (.iconst 1, 1) := by decide +kernel
theorem dX4_tell_152 : decode cX4_tell 152 = .ok (.iaload, 1) := by decide +kernel
theorem dX4_tell_153 : decode cX4_tell 153 = .ok (.iastore, 1) := by decide +kernel
theorem dX4_tell_154 : decode cX4_tell 154 = .ok (.goto 16, 3) := by decide +kernel
theorem dX4_tell_157 : decode cX4_tell 157 = .ok (.aload_n 1, 1) := by decide +kernel
theorem dX4_tell_158 : decode cX4_tell 158 = .ok (.aload_n 0, 1) := by decide +kernel
theorem dX4_tell_159 : decode cX4_tell 159 = .ok (.getfield 15, 3) := by decide +kernel
theorem dX4_tell_162 : decode cX4_tell 162 = .ok (.iconst 0, 1) := by decide +kernel
theorem dX4_tell_163 : decode cX4_tell 163 = .ok (.iaload, 1) := by decide +kernel
theorem dX4_tell_164 : decode cX4_tell 164 = .ok (.invokevirtual 58, 3) := by decide +kernel
theorem dX4_tell_167 : decode cX4_tell 167 = .ok (.goto 3, 3) := by decide +kernel
theorem dX4_tell_170 : decode cX4_tell 170 = .ok (.iinc 2 1, 3) := by decide +kernel
theorem dX4_tell_173 : decode cX4_tell 173 = .ok (.goto (-162), 3) := by decide +kernel
theorem dX4_tell_176 : decode cX4_tell 176 = .ok (.iconst (-1), 1) := by decide +kernel
theorem dX4_tell_177 : decode cX4_tell 177 = .ok (.ireturn, 1) := by decide +kernel
theorem dX4_takeItem_0 : decode cX4_takeItem 0 = .ok (.aload_n 0, 1) := by decide +kernel
theorem dX4_takeItem_1 : decode cX4_takeItem 1 = .ok (.aload_n 0, 1) := by decide +kernel
theorem dX4_takeItem_2 : decode cX4_takeItem 2 = .ok (.getfield 31, 3) := by decide +kernel
theorem dX4_takeItem_5 : decode cX4_takeItem 5 = .ok (.iconst 1, 1) := by decide +kernel
theorem dX4_takeItem_6 : decode cX4_takeItem 6 = .ok (.if_icmp .ne 10, 3) := by decide +kernel
theorem dX4_takeItem_9 : decode cX4_takeItem 9 = .ok (.aload_n 0, 1) := by decide +kernel
theorem dX4_takeItem_10 : decode cX4_takeItem 10 = .ok (.invokevirtual 62, 3) := by decide +kernel
theorem dX4_takeItem_13 : decode cX4_takeItem 13 = .ok (.goto 4, 3) := by decide +kernel
theorem dX4_takeItem_16 : decode cX4_takeItem 16 = .ok (.iconst (-1), 1) := by decide +kernel
theorem dX4_takeItem_17 : decode cX4_takeItem 17 = .ok (.putfield 38, 3) := by decide +kernel
theorem dX4_takeItem_20 : decode cX4_takeItem 20 = .ok (.iload_n 2, 1) := by decide +kernel
theorem dX4_takeItem_21 : decode cX4_takeItem 21 = .ok (.aload_n 0, 1) := by decide +kernel
theorem dX4_takeItem_22 : decode cX4_takeItem 22 = .ok (.getfield 38, 3) := by decide +kernel
theorem dX4_takeItem_25 : decode cX4_takeItem 25 = .ok (.ifCond .ne 7, 3) := by decide +kernel
theorem dX4_takeItem_28 : decode cX4_takeItem 28 = .ok (.iconst 1, 1) := by decide +kernel
theorem dX4_takeItem_29 : decode cX4_takeItem 29 = .ok (.goto 4, 3) := by decide +kernel
theorem dX4_takeItem_32 : decode cX4_takeItem 32 = .ok (.iconst 0, 1) := by decide +kernel
theorem dX4_takeItem_33 : decode cX4_takeItem 33 = .ok (.if_icmp .eq 5, 3) := by decide +kernel
theorem dX4_takeItem_36 : decode cX4_takeItem 36 = .ok (.iconst 0, 1) := by decide +kernel
theorem dX4_takeItem_37 : decode cX4_takeItem 37 = .ok (.ireturn, 1) := by decide +kernel
theorem dX4_takeItem_38 : decode cX4_takeItem 38 = .ok (.aload_n 0, 1) := by decide +kernel
theorem dX4_takeItem_39 : decode cX4_takeItem 39 = .ok (.getfield 38, 3) := by decide +kernel
theorem dX4_takeItem_42 : decode cX4_takeItem 42 = .ok (.tableswitch 223 0 4 #[34, 39, 92, 134, 199], 34) := by decide +kernel
theorem dX4_takeItem_76 : decode cX4_takeItem 76 = .ok (.aload_n 0, 1) := by decide +kernel
theorem dX4_takeItem_77 : decode cX4_takeItem 77 = .ok (.invokevirtual 66, 3) := by decide +kernel
theorem dX4_takeItem_80 : decode cX4_takeItem 80 = .ok (.ireturn, 1) := by decide +kernel
theorem dX4_takeItem_81 : decode cX4_takeItem 81 = .ok (.aload_n 1, 1) := by decide +kernel
theorem dX4_takeItem_82 : decode cX4_takeItem 82 = .ok (.getfield 70, 3) := by decide +kernel
theorem dX4_takeItem_85 : decode cX4_takeItem 85 = .ok (.bipush 7, 2) := by decide +kernel
theorem dX4_takeItem_87 : decode cX4_takeItem 87 = .ok (.if_icmp .ge 45, 3) := by decide +kernel
theorem dX4_takeItem_90 : decode cX4_takeItem 90 = .ok (.aload_n 0, 1) := by decide +kernel
theorem dX4_takeItem_91 : decode cX4_takeItem 91 = .ok (.iconst 0, 1) := by decide +kernel
theorem dX4_takeItem_92 : decode cX4_takeItem 92 = .ok (.iconst 0, 1) := by decide +kernel
theorem dX4_takeItem_93 : decode cX4_takeItem 93 = .ok (.iconst 5, 1) := by decide +kernel
theorem dX4_takeItem_94 : decode cX4_takeItem 94 = .ok (.invokevirtual 73, 3) := by decide +kernel
theorem dX4_takeItem_97 : decode cX4_takeItem 97 = .ok (.ifCond .eq 35, 3) := by decide +kernel
theorem dX4_takeItem_100 : decode cX4_takeItem 100 = .ok (.aload_n 0, 1) := by decide +kernel
theorem dX4_takeItem_101 : decode cX4_takeItem 101 = .ok (.iconst 1, 1) := by decide +kernel
theorem dX4_takeItem_102 : decode cX4_takeItem 102 = .ok (.iconst 0, 1) := by decide +kernel
theorem dX4_takeItem_103 : decode cX4_takeItem 103 = .ok (.iconst 3, 1) := by decide +kernel
theorem dX4_takeItem_104 : decode cX4_takeItem 104 = .ok (.invokevirtual 73, 3) := by decide +kernel
theorem dX4_takeItem_107 : decode cX4_takeItem 107 = .ok (.ifCond .eq 25, 3) := by decide +kernel
theorem dX4_takeItem_110 : decode cX4_takeItem 110 = .ok (.aload_n 0, 1) := by decide +kernel
theorem dX4_takeItem_111 : decode cX4_takeItem 111 = .ok (.iconst 2, 1) := by decide +kernel
theorem dX4_takeItem_112 : decode cX4_takeItem 112 = .ok (.iconst 0, 1) := by decide +kernel
theorem dX4_takeItem_113 : decode cX4_takeItem 113 = .ok (.bipush 40, 2) := by decide +kernel
theorem dX4_takeItem_115 : decode cX4_takeItem 115 = .ok (.invokevirtual 73, 3) := by decide +kernel
theorem dX4_takeItem_118 : decode cX4_takeItem 118 = .ok (.ifCond .eq 14, 3) := by decide +kernel
theorem dX4_takeItem_121 : decode cX4_takeItem 121 = .ok (.aload_n 0, 1) := by decide +kernel
theorem dX4_takeItem_122 : decode cX4_takeItem 122 = .ok (.invokevirtual 66, 3) := by decide +kernel
theorem dX4_takeItem_125 : decode cX4_takeItem 125 = .ok (.ifCond .eq 7, 3) := by decide +kernel
theorem dX4_takeItem_128 : decode cX4_takeItem 128 = .ok (.iconst 1, 1) := by decide +kernel
theorem dX4_takeItem_129 : decode cX4_takeItem 129 = .ok (.goto 4, 3) := by decide +kernel
theorem dX4_takeItem_132 : decode cX4_takeItem 132 = .ok (.iconst 0, 1) := by decide +kernel
theorem dX4_takeItem_133 : decode cX4_takeItem 133 = .ok (.ireturn, 1) := by decide +kernel
theorem dX4_takeItem_134 : decode cX4_takeItem 134 = .ok (.aload_n 1, 1) := by decide +kernel
theorem dX4_takeItem_135 : decode cX4_takeItem 135 = .ok (.getfield 77, 3) := by decide +kernel
theorem dX4_takeItem_138 : decode cX4_takeItem 138 = .ok (.iconst 5, 1) := by decide +kernel
theorem dX4_takeItem_139 : decode cX4_takeItem 139 = .ok (.if_icmp .ge 35, 3) := by decide +kernel
theorem dX4_takeItem_142 : decode cX4_takeItem 142 = .ok (.aload_n 0, 1) := by decide +kernel
theorem dX4_takeItem_143 : decode cX4_takeItem 143 = .ok (.iconst 0, 1) := by decide +kernel
theorem dX4_takeItem_144 : decode cX4_takeItem 144 = .ok (.iconst 0, 1) := by decide +kernel
theorem dX4_takeItem_145 : decode cX4_takeItem 145 = .ok (.iconst 5, 1) := by decide +kernel
theorem dX4_takeItem_146 : decode cX4_takeItem 146 = .ok (.invokevirtual 73, 3) := by decide +kernel
theorem dX4_takeItem_149 : decode cX4_takeItem 149 = .ok (.ifCond .eq 25, 3) := by decide +kernel
theorem dX4_takeItem_152 : decode cX4_takeItem 152 = .ok (.aload_n 0, 1) := by decide +kernel
theorem dX4_takeItem_153 : decode cX4_takeItem 153 = .ok (.iconst 1, 1) := by decide +kernel
theorem dX4_takeItem_154 : decode cX4_takeItem 154 = .ok (.iconst 1, 1) := by decide +kernel
theorem dX4_takeItem_155 : decode cX4_takeItem 155 = .ok (.bipush 9, 2) := by decide +kernel
theorem dX4_takeItem_157 : decode cX4_takeItem 157 = .ok (.invokevirtual 73, 3) := by decide +kernel
theorem dX4_takeItem_160 : decode cX4_takeItem 160 = .ok (.ifCond .eq 14, 3) := by decide +kernel
theorem dX4_takeItem_163 : decode cX4_takeItem 163 = .ok (.aload_n 0, 1) := by decide +kernel
theorem dX4_takeItem_164 : decode cX4_takeItem 164 = .ok (.invokevirtual 66, 3) := by decide +kernel
theorem dX4_takeItem_167 : decode cX4_takeItem 167 = .ok (.ifCond .eq 7, 3) := by decide +kernel
theorem dX4_takeItem_170 : decode cX4_takeItem 170 = .ok (.iconst 1, 1) := by decide +kernel
theorem dX4_takeItem_171 : decode cX4_takeItem 171 = .ok (.goto 4, 3) := by decide +kernel
theorem dX4_takeItem_174 : decode cX4_takeItem 174 = .ok (.iconst 0, 1) := by decide +kernel
theorem dX4_takeItem_175 : decode cX4_takeItem 175 = .ok (.ireturn, 1) := by decide +kernel
theorem dX4_takeItem_176 : decode cX4_takeItem 176 = .ok (.aload_n 0, 1) := by decide +kernel
theorem dX4_takeItem_177 : decode cX4_takeItem 177 = .ok (.iconst 0, 1) := by decide +kernel
theorem dX4_takeItem_178 : decode cX4_takeItem 178 = .ok (.iconst 0, 1) := by decide +kernel
theorem dX4_takeItem_179 : decode cX4_takeItem 179 = .ok (.aload_n 1, 1) := by decide +kernel
theorem dX4_takeItem_180 : decode cX4_takeItem 180 = .ok (.getfield 77, 3) := by decide +kernel
theorem dX4_takeItem_183 : decode cX4_takeItem 183 = .ok (.iconst 1, 1) := by decide +kernel
theorem dX4_takeItem_184 : decode cX4_takeItem 184 = .ok (.isub, 1) := by decide +kernel
theorem dX4_takeItem_185 : decode cX4_takeItem 185 = .ok (.invokevirtual 73, 3) := by decide +kernel
theorem dX4_takeItem_188 : decode cX4_takeItem 188 = .ok (.ifCond .eq 51, 3) := by decide +kernel
theorem dX4_takeItem_191 : decode cX4_takeItem 191 = .ok (.aload_n 0, 1) := by decide +kernel
theorem dX4_takeItem_192 : decode cX4_takeItem 192 = .ok (.iconst 1, 1) := by decide +kernel
theorem dX4_takeItem_193 : decode cX4_takeItem 193 = .ok (.iconst 0, 1) := by decide +kernel
theorem dX4_takeItem_194 : decode cX4_takeItem 194 = .ok (.aload_n 1, 1) := by decide +kernel
theorem dX4_takeItem_195 : decode cX4_takeItem 195 = .ok (.getfield 70, 3) := by decide +kernel
theorem dX4_takeItem_198 : decode cX4_takeItem 198 = .ok (.iconst 1, 1) := by decide +kernel
theorem dX4_takeItem_199 : decode cX4_takeItem 199 = .ok (.isub, 1) := by decide +kernel
theorem dX4_takeItem_200 : decode cX4_takeItem 200 = .ok (.invokevirtual 73, 3) := by decide +kernel
theorem dX4_takeItem_203 : decode cX4_takeItem 203 = .ok (.ifCond .eq 36, 3) := by decide +kernel
theorem dX4_takeItem_206 : decode cX4_takeItem 206 = .ok (.aload_n 1, 1) := by decide +kernel
theorem dX4_takeItem_207 : decode cX4_takeItem 207 = .ok (.getfield 49, 3) := by decide +kernel
theorem dX4_takeItem_210 : decode cX4_takeItem 210 = .ok (.aload_n 0, 1) := by decide +kernel
theorem dX4_takeItem_211 : decode cX4_takeItem 211 = .ok (.getfield 15, 3) := by decide +kernel
theorem dX4_takeItem_214 : decode cX4_takeItem 214 = .ok (.iconst 0, 1) := by decide +kernel
theorem dX4_takeItem_215 : decode cX4_takeItem 215 = .ok (.iaload, 1) := by decide +kernel
theorem dX4_takeItem_216 : decode cX4_takeItem 216 = .ok (.aload_n 0, 1) := by decide +kernel
theorem dX4_takeItem_217 : decode cX4_takeItem 217 = .ok (.getfield 15, 3) := by decide +kernel
theorem dX4_takeItem_220 : decode cX4_takeItem 220 = .ok (.iconst 1, 1) := by decide +kernel
theorem dX4_takeItem_221 : decode cX4_takeItem 221 = .ok (.iaload, 1) := by decide +kernel
theorem dX4_takeItem_222 : decode cX4_takeItem 222 = .ok (.invokevirtual 80, 3) := by decide +kernel
theorem dX4_takeItem_225 : decode cX4_takeItem 225 = .ok (.ifCond .ne 14, 3) := by decide +kernel
theorem dX4_takeItem_228 : decode cX4_takeItem 228 = .ok (.aload_n 0, 1) := by decide +kernel
theorem dX4_takeItem_229 : decode cX4_takeItem 229 = .ok (.invokevirtual 66, 3) := by decide +kernel
theorem dX4_takeItem_232 : decode cX4_takeItem 232 = .ok (.ifCond .eq 7, 3) := by decide +kernel
theorem dX4_takeItem_235 : decode cX4_takeItem 235 = .ok (.iconst 1, 1) := by decide +kernel
theorem dX4_takeItem_236 : decode cX4_takeItem 236 = .ok (.goto 4, 3) := by decide +kernel
theorem dX4_takeItem_239 : decode cX4_takeItem 239 = .ok (.iconst 0, 1) := by decide +kernel
theorem dX4_takeItem_240 : decode cX4_takeItem 240 = .ok (.ireturn, 1) := by decide +kernel
theorem dX4_takeItem_241 : decode cX4_takeItem 241 = .ok (.aload_n 0, 1) := by decide +kernel
theorem dX4_takeItem_242 : decode cX4_takeItem 242 = .ok (.iconst 0, 1) := by decide +kernel
theorem dX4_takeItem_243 : decode cX4_takeItem 243 = .ok (.iconst 1, 1) := by decide +kernel
theorem dX4_takeItem_244 : decode cX4_takeItem 244 = .ok (.bipush 30, 2) := by decide +kernel
theorem dX4_takeItem_246 : decode cX4_takeItem 246 = .ok (.invokevirtual 73, 3) := by decide +kernel
theorem dX4_takeItem_249 : decode cX4_takeItem 249 = .ok (.ifCond .eq 14, 3) := by decide +kernel
theorem dX4_takeItem_252 : decode cX4_takeItem 252 = .ok (.aload_n 0, 1) := by decide +kernel
theorem dX4_takeItem_253 : decode cX4_takeItem 253 = .ok (.invokevirtual 66, 3) := by decide +kernel
theorem dX4_takeItem_256 : decode cX4_takeItem 256 = .ok (.ifCond .eq 7, 3) := by decide +kernel
theorem dX4_takeItem_259 : decode cX4_takeItem 259 = .ok (.iconst 1, 1) := by decide +kernel
theorem dX4_takeItem_260 : decode cX4_takeItem 260 = .ok (.goto 4, 3) := by decide +kernel
theorem dX4_takeItem_263 : decode cX4_takeItem 263 = .ok (.iconst 0, 1) := by decide +kernel
theorem dX4_takeItem_264 : decode cX4_takeItem 264 = .ok (.ireturn, 1) := by decide +kernel
theorem dX4_takeItem_265 : decode cX4_takeItem 265 = .ok (.iconst 0, 1) := by decide +kernel
theorem dX4_takeItem_266 : decode cX4_takeItem 266 = .ok (.ireturn, 1) := by decide +kernel
theorem dX4_takeNumber_0 : decode cX4_takeNumber 0 = .ok (.aload_n 0, 1) := by decide +kernel
theorem dX4_takeNumber_1 : decode cX4_takeNumber 1 = .ok (.invokevirtual 28, 3) := by decide +kernel
theorem dX4_takeNumber_4 : decode cX4_takeNumber 4 = .ok (.aload_n 0, 1) := by decide +kernel
theorem dX4_takeNumber_5 : decode cX4_takeNumber 5 = .ok (.getfield 15, 3) := by decide +kernel
theorem dX4_takeNumber_8 : decode cX4_takeNumber 8 = .ok (.iload_n 1, 1) := by decide +kernel
theorem dX4_takeNumber_9 : decode cX4_takeNumber 9 = .ok (.aload_n 0, 1) := by decide +kernel
theorem dX4_takeNumber_10 : decode cX4_takeNumber 10 = .ok (.getfield 84, 3) := by decide +kernel
theorem dX4_takeNumber_13 : decode cX4_takeNumber 13 = .ok (.iastore, 1) := by decide +kernel
theorem dX4_takeNumber_14 : decode cX4_takeNumber 14 = .ok (.aload_n 0, 1) := by decide +kernel
theorem dX4_takeNumber_15 : decode cX4_takeNumber 15 = .ok (.getfield 31, 3) := by decide +kernel
theorem dX4_takeNumber_18 : decode cX4_takeNumber 18 = .ok (.iconst 2, 1) := by decide +kernel
theorem dX4_takeNumber_19 : decode cX4_takeNumber 19 = .ok (.if_icmp .ne 19, 3) := by decide +kernel
theorem dX4_takeNumber_22 : decode cX4_takeNumber 22 = .ok (.aload_n 0, 1) := by decide +kernel
theorem dX4_takeNumber_23 : decode cX4_takeNumber 23 = .ok (.getfield 84, 3) := by decide +kernel
theorem dX4_takeNumber_26 : decode cX4_takeNumber 26 = .ok (.iload_n 2, 1) := by decide +kernel
theorem dX4_takeNumber_27 : decode cX4_takeNumber 27 = .ok (.iload_n 3, 1) := by decide +kernel
theorem dX4_takeNumber_28 : decode cX4_takeNumber 28 = .ok (.invokestatic 87, 3) := by decide +kernel
theorem dX4_takeNumber_31 : decode cX4_takeNumber 31 = .ok (.ifCond .eq 7, 3) := by decide +kernel
theorem dX4_takeNumber_34 : decode cX4_takeNumber 34 = .ok (.iconst 1, 1) := by decide +kernel
theorem dX4_takeNumber_35 : decode cX4_takeNumber 35 = .ok (.goto 4, 3) := by decide +kernel
theorem dX4_takeNumber_38 : decode cX4_takeNumber 38 = .ok (.iconst 0, 1) := by decide +kernel
theorem dX4_takeNumber_39 : decode cX4_takeNumber 39 = .ok (.ireturn, 1) := by decide +kernel
theorem dX4_takeStop_0 : decode cX4_takeStop 0 = .ok (.aload_n 0, 1) := by decide +kernel
theorem dX4_takeStop_1 : decode cX4_takeStop 1 = .ok (.invokevirtual 28, 3) := by decide +kernel
theorem dX4_takeStop_4 : decode cX4_takeStop 4 = .ok (.aload_n 0, 1) := by decide +kernel
theorem dX4_takeStop_5 : decode cX4_takeStop 5 = .ok (.getfield 31, 3) := by decide +kernel
theorem dX4_takeStop_8 : decode cX4_takeStop 8 = .ok (.iconst 3, 1) := by decide +kernel
theorem dX4_takeStop_9 : decode cX4_takeStop 9 = .ok (.if_icmp .ne 7, 3) := by decide +kernel
theorem dX4_takeStop_12 : decode cX4_takeStop 12 = .ok (.iconst 1, 1) := by decide +kernel
theorem dX4_takeStop_13 : decode cX4_takeStop 13 = .ok (.goto 4, 3) := by decide +kernel
theorem dX4_takeStop_16 : decode cX4_takeStop 16 = .ok (.iconst 0, 1) := by decide +kernel
theorem dX4_takeStop_17 : decode cX4_takeStop 17 = .ok (.ireturn, 1) := by decide +kernel
theorem dX4_step_0 : decode cX4_step 0 = .ok (.aload_n 0, 1) := by decide +kernel
theorem dX4_step_1 : decode cX4_step 1 = .ok (.aload_n 0, 1) := by decide +kernel
theorem dX4_step_2 : decode cX4_step 2 = .ok (.getfield 24, 3) := by decide +kernel
theorem dX4_step_5 : decode cX4_step 5 = .ok (.putfield 90, 3) := by decide +kernel
theorem dX4_step_8 : decode cX4_step 8 = .ok (.aload_n 0, 1) := by decide +kernel
theorem dX4_step_9 : decode cX4_step 9 = .ok (.getfield 90, 3) := by decide +kernel
theorem dX4_step_12 : decode cX4_step 12 = .ok (.aload_n 0, 1) := by decide +kernel
theorem dX4_step_13 : decode cX4_step 13 = .ok (.getfield 93, 3) := by decide +kernel
theorem dX4_step_16 : decode cX4_step 16 = .ok (.if_icmp .ge 30, 3) := by decide +kernel
theorem dX4_step_19 : decode cX4_step 19 = .ok (.aload_n 0, 1) := by decide +kernel
theorem dX4_step_20 : decode cX4_step 20 = .ok (.getfield 11, 3) := by decide +kernel
theorem dX4_step_23 : decode cX4_step 23 = .ok (.aload_n 0, 1) := by decide +kernel
theorem dX4_step_24 : decode cX4_step 24 = .ok (.getfield 90, 3) := by decide +kernel
theorem dX4_step_27 : decode cX4_step 27 = .ok (.baload, 1) := by decide +kernel
theorem dX4_step_28 : decode cX4_step 28 = .ok (.bipush 32, 2) := by decide +kernel
theorem dX4_step_30 : decode cX4_step 30 = .ok (.if_icmp .ne 16, 3) := by decide +kernel
theorem dX4_step_33 : decode cX4_step 33 = .ok (.aload_n 0, 1) := by decide +kernel
theorem dX4_step_34 : decode cX4_step 34 = .ok (.dup, 1) := by decide +kernel
theorem dX4_step_35 : decode cX4_step 35 = .ok (.getfield 90, 3) := by decide +kernel
theorem dX4_step_38 : decode cX4_step 38 = .ok (.iconst 1, 1) := by decide +kernel
theorem dX4_step_39 : decode cX4_step 39 = .ok (.iadd, 1) := by decide +kernel
theorem dX4_step_40 : decode cX4_step 40 = .ok (.putfield 90, 3) := by decide +kernel
theorem dX4_step_43 : decode cX4_step 43 = .ok (.goto (-35), 3) := by decide +kernel
theorem dX4_step_46 : decode cX4_step 46 = .ok (.aload_n 0, 1) := by decide +kernel
theorem dX4_step_47 : decode cX4_step 47 = .ok (.aload_n 0, 1) := by decide +kernel
theorem dX4_step_48 : decode cX4_step 48 = .ok (.getfield 90, 3) := by decide +kernel
theorem dX4_step_51 : decode cX4_step 51 = .ok (.putfield 24, 3) := by decide +kernel
theorem dX4_step_54 : decode cX4_step 54 = .ok (.aload_n 0, 1) := by decide +kernel
theorem dX4_step_55 : decode cX4_step 55 = .ok (.getfield 90, 3) := by decide +kernel
theorem dX4_step_58 : decode cX4_step 58 = .ok (.aload_n 0, 1) := by decide +kernel
theorem dX4_step_59 : decode cX4_step 59 = .ok (.getfield 93, 3) := by decide +kernel
theorem dX4_step_62 : decode cX4_step 62 = .ok (.if_icmp .lt 11, 3) := by decide +kernel
theorem dX4_step_65 : decode cX4_step 65 = .ok (.aload_n 0, 1) := by decide +kernel
theorem dX4_step_66 : decode cX4_step 66 = .ok (.iconst 0, 1) := by decide +kernel
theorem dX4_step_67 : decode cX4_step 67 = .ok (.putfield 31, 3) := by decide +kernel
theorem dX4_step_70 : decode cX4_step 70 = .ok (.goto 72, 3) := by decide +kernel
theorem dX4_step_73 : decode cX4_step 73 = .ok (.aload_n 0, 1) := by decide +kernel
theorem dX4_step_74 : decode cX4_step 74 = .ok (.aload_n 0, 1) := by decide +kernel
theorem dX4_step_75 : decode cX4_step 75 = .ok (.getfield 90, 3) := by decide +kernel
theorem dX4_step_78 : decode cX4_step 78 = .ok (.invokevirtual 96, 3) := by decide +kernel
theorem dX4_step_81 : decode cX4_step 81 = .ok (.ifCond .eq 10, 3) := by decide +kernel
theorem dX4_step_84 : decode cX4_step 84 = .ok (.aload_n 0, 1) := by decide +kernel
theorem dX4_step_85 : decode cX4_step 85 = .ok (.invokevirtual 100, 3) := by decide +kernel
theorem dX4_step_88 : decode cX4_step 88 = .ok (.goto 54, 3) := by decide +kernel
theorem dX4_step_91 : decode cX4_step 91 = .ok (.aload_n 0, 1) := by decide +kernel
theorem dX4_step_92 : decode cX4_step 92 = .ok (.aload_n 0, 1) := by decide +kernel
theorem dX4_step_93 : decode cX4_step 93 = .ok (.getfield 90, 3) := by decide +kernel
theorem dX4_step_96 : decode cX4_step 96 = .ok (.invokevirtual 103, 3) := by decide +kernel
theorem dX4_step_99 : decode cX4_step 99 = .ok (.ifCond .eq 10, 3) := by decide +kernel
theorem dX4_step_102 : decode cX4_step 102 = .ok (.aload_n 0, 1) := by decide +kernel
theorem dX4_step_103 : decode cX4_step 103 = .ok (.invokevirtual 106, 3) := by decide +kernel
theorem dX4_step_106 : decode cX4_step 106 = .ok (.goto 36, 3) := by decide +kernel
theorem dX4_step_109 : decode cX4_step 109 = .ok (.aload_n 0, 1) := by decide +kernel
theorem dX4_step_110 : decode cX4_step 110 = .ok (.aload_n 0, 1) := by decide +kernel
theorem dX4_step_111 : decode cX4_step 111 = .ok (.getfield 11, 3) := by decide +kernel
theorem dX4_step_114 : decode cX4_step 114 = .ok (.aload_n 0, 1) := by decide +kernel
theorem dX4_step_115 : decode cX4_step 115 = .ok (.getfield 90, 3) := by decide +kernel
theorem dX4_step_118 : decode cX4_step 118 = .ok (.baload, 1) := by decide +kernel
theorem dX4_step_119 : decode cX4_step 119 = .ok (.bipush 59, 2) := by decide +kernel
theorem dX4_step_121 : decode cX4_step 121 = .ok (.if_icmp .ne 7, 3) := by decide +kernel
theorem dX4_step_124 : decode cX4_step 124 = .ok (.iconst 3, 1) := by decide +kernel
theorem dX4_step_125 : decode cX4_step 125 = .ok (.goto 4, 3) := by decide +kernel
theorem dX4_step_128 : decode cX4_step 128 = .ok (.iconst 4, 1) := by decide +kernel
theorem dX4_step_129 : decode cX4_step 129 = .ok (.putfield 31, 3) := by decide +kernel
theorem dX4_step_132 : decode cX4_step 132 = .ok (.aload_n 0, 1) := by decide +kernel
theorem dX4_step_133 : decode cX4_step 133 = .ok (.aload_n 0, 1) := by decide +kernel
theorem dX4_step_134 : decode cX4_step 134 = .ok (.getfield 90, 3) := by decide +kernel
theorem dX4_step_137 : decode cX4_step 137 = .ok (.iconst 1, 1) := by decide +kernel
theorem dX4_step_138 : decode cX4_step 138 = .ok (.iadd, 1) := by decide +kernel
theorem dX4_step_139 : decode cX4_step 139 = .ok (.putfield 24, 3) := by decide +kernel
theorem dX4_step_142 : decode cX4_step 142 = .ok (.return_, 1) := by decide +kernel
theorem dX4_stepWord_0 : decode cX4_stepWord 0 = .ok (.aload_n 0, 1) := by decide +kernel
theorem dX4_stepWord_1 : decode cX4_stepWord 1 = .ok (.getfield 24, 3) := by decide +kernel
theorem dX4_stepWord_4 : decode cX4_stepWord 4 = .ok (.aload_n 0, 1) := by decide +kernel
theorem dX4_stepWord_5 : decode cX4_stepWord 5 = .ok (.getfield 93, 3) := by decide +kernel
theorem dX4_stepWord_8 : decode cX4_stepWord 8 = .ok (.if_icmp .ge 27, 3) := by decide +kernel
theorem dX4_stepWord_11 : decode cX4_stepWord 11 = .ok (.aload_n 0, 1) := by decide +kernel
theorem dX4_stepWord_12 : decode cX4_stepWord 12 = .ok (.aload_n 0, 1) := by decide +kernel
theorem dX4_stepWord_13 : decode cX4_stepWord 13 = .ok (.getfield 24, 3) := by decide +kernel
theorem dX4_stepWord_16 : decode cX4_stepWord 16 = .ok (.invokevirtual 96, 3) := by decide +kernel
theorem dX4_stepWord_19 : decode cX4_stepWord 19 = .ok (.ifCond .eq 16, 3) := by decide +kernel
theorem dX4_stepWord_22 : decode cX4_stepWord 22 = .ok (.aload_n 0, 1) := by decide +kernel
theorem dX4_stepWord_23 : decode cX4_stepWord 23 = .ok (.dup, 1) := by decide +kernel
theorem dX4_stepWord_24 : decode cX4_stepWord 24 = .ok (.getfield 24, 3) := by decide +kernel
theorem dX4_stepWord_27 : decode cX4_stepWord 27 = .ok (.iconst 1, 1) := by decide +kernel
theorem dX4_stepWord_28 : decode cX4_stepWord 28 = .ok (.iadd, 1) := by decide +kernel
theorem dX4_stepWord_29 : decode cX4_stepWord 29 = .ok (.putfield 24, 3) := by decide +kernel
theorem dX4_stepWord_32 : decode cX4_stepWord 32 = .ok (.goto (-32), 3) := by decide +kernel
theorem dX4_stepWord_35 : decode cX4_stepWord 35 = .ok (.aload_n 0, 1) := by decide +kernel
theorem dX4_stepWord_36 : decode cX4_stepWord 36 = .ok (.iconst 1, 1) := by decide +kernel
theorem dX4_stepWord_37 : decode cX4_stepWord 37 = .ok (.putfield 31, 3) := by decide +kernel
theorem dX4_stepWord_40 : decode cX4_stepWord 40 = .ok (.return_, 1) := by decide +kernel
theorem dX4_stepNumber_0 : decode cX4_stepNumber 0 = .ok (.aload_n 0, 1) := by decide +kernel
theorem dX4_stepNumber_1 : decode cX4_stepNumber 1 = .ok (.iconst 0, 1) := by decide +kernel
theorem dX4_stepNumber_2 : decode cX4_stepNumber 2 = .ok (.putfield 84, 3) := by decide +kernel
theorem dX4_stepNumber_5 : decode cX4_stepNumber 5 = .ok (.aload_n 0, 1) := by decide +kernel
theorem dX4_stepNumber_6 : decode cX4_stepNumber 6 = .ok (.getfield 24, 3) := by decide +kernel
theorem dX4_stepNumber_9 : decode cX4_stepNumber 9 = .ok (.aload_n 0, 1) := by decide +kernel
theorem dX4_stepNumber_10 : decode cX4_stepNumber 10 = .ok (.getfield 93, 3) := by decide +kernel
theorem dX4_stepNumber_13 : decode cX4_stepNumber 13 = .ok (.if_icmp .ge 68, 3) := by decide +kernel
theorem dX4_stepNumber_16 : decode cX4_stepNumber 16 = .ok (.aload_n 0, 1) := by decide +kernel
theorem dX4_stepNumber_17 : decode cX4_stepNumber 17 = .ok (.aload_n 0, 1) := by decide +kernel
theorem dX4_stepNumber_18 : decode cX4_stepNumber 18 = .ok (.getfield 24, 3) := by decide +kernel
theorem dX4_stepNumber_21 : decode cX4_stepNumber 21 = .ok (.invokevirtual 103, 3) := by decide +kernel
theorem dX4_stepNumber_24 : decode cX4_stepNumber 24 = .ok (.ifCond .eq 57, 3) := by decide +kernel
theorem dX4_stepNumber_27 : decode cX4_stepNumber 27 = .ok (.aload_n 0, 1) := by decide +kernel
theorem dX4_stepNumber_28 : decode cX4_stepNumber 28 = .ok (.aload_n 0, 1) := by decide +kernel
theorem dX4_stepNumber_29 : decode cX4_stepNumber 29 = .ok (.getfield 24, 3) := by decide +kernel
theorem dX4_stepNumber_32 : decode cX4_stepNumber 32 = .ok (.aload_n 0, 1) := by decide +kernel
theorem dX4_stepNumber_33 : decode cX4_stepNumber 33 = .ok (.getfield 90, 3) := by decide +kernel
theorem dX4_stepNumber_36 : decode cX4_stepNumber 36 = .ok (.isub, 1) := by decide +kernel
theorem dX4_stepNumber_37 : decode cX4_stepNumber 37 = .ok (.iconst 2, 1) := by decide +kernel
theorem dX4_stepNumber_38 : decode cX4_stepNumber 38 = .ok (.if_icmp .ge 26, 3) := by decide +kernel
theorem dX4_stepNumber_41 : decode cX4_stepNumber 41 = .ok (.aload_n 0, 1) := by decide +kernel
theorem dX4_stepNumber_42 : decode cX4_stepNumber 42 = .ok (.getfield 84, 3) := by decide +kernel
theorem dX4_stepNumber_45 : decode cX4_stepNumber 45 = .ok (.bipush 10, 2) := by decide +kernel
theorem dX4_stepNumber_47 : decode cX4_stepNumber 47 = .ok (.imul, 1) := by decide +kernel
theorem dX4_stepNumber_48 : decode cX4_stepNumber 48 = .ok (.aload_n 0, 1) := by decide +kernel
theorem dX4_stepNumber_49 : decode cX4_stepNumber 49 = .ok (.getfield 11, 3) := by decide +kernel
theorem dX4_stepNumber_52 : decode cX4_stepNumber 52 = .ok (.aload_n 0, 1) := by decide +kernel
theorem dX4_stepNumber_53 : decode cX4_stepNumber 53 = .ok (.getfield 24, 3) := by decide +kernel
theorem dX4_stepNumber_56 : decode cX4_stepNumber 56 = .ok (.baload, 1) := by decide +kernel
theorem dX4_stepNumber_57 : decode cX4_stepNumber 57 = .ok (.iadd, 1) := by decide +kernel
theorem dX4_stepNumber_58 : decode cX4_stepNumber 58 = .ok (.bipush 48, 2) := by decide +kernel
theorem dX4_stepNumber_60 : decode cX4_stepNumber 60 = .ok (.isub, 1) := by decide +kernel
theorem dX4_stepNumber_61 : decode cX4_stepNumber 61 = .ok (.goto 4, 3) := by decide +kernel
theorem dX4_stepNumber_64 : decode cX4_stepNumber 64 = .ok (.iconst 0, 1) := by decide +kernel
theorem dX4_stepNumber_65 : decode cX4_stepNumber 65 = .ok (.putfield 84, 3) := by decide +kernel
theorem dX4_stepNumber_68 : decode cX4_stepNumber 68 = .ok (.aload_n 0, 1) := by decide +kernel
theorem dX4_stepNumber_69 : decode cX4_stepNumber 69 = .ok (.dup, 1) := by decide +kernel
theorem dX4_stepNumber_70 : decode cX4_stepNumber 70 = .ok (.getfield 24, 3) := by decide +kernel
theorem dX4_stepNumber_73 : decode cX4_stepNumber 73 = .ok (.iconst 1, 1) := by decide +kernel
theorem dX4_stepNumber_74 : decode cX4_stepNumber 74 = .ok (.iadd, 1) := by decide +kernel
theorem dX4_stepNumber_75 : decode cX4_stepNumber 75 = .ok (.putfield 24, 3) := by decide +kernel
theorem dX4_stepNumber_78 : decode cX4_stepNumber 78 = .ok (.goto (-73), 3) := by decide +kernel
theorem dX4_stepNumber_81 : decode cX4_stepNumber 81 = .ok (.aload_n 0, 1) := by decide +kernel
theorem dX4_stepNumber_82 : decode cX4_stepNumber 82 = .ok (.aload_n 0, 1) := by decide +kernel
theorem dX4_stepNumber_83 : decode cX4_stepNumber 83 = .ok (.getfield 24, 3) := by decide +kernel
theorem dX4_stepNumber_86 : decode cX4_stepNumber 86 = .ok (.aload_n 0, 1) := by decide +kernel
theorem dX4_stepNumber_87 : decode cX4_stepNumber 87 = .ok (.getfield 90, 3) := by decide +kernel
theorem dX4_stepNumber_90 : decode cX4_stepNumber 90 = .ok (.isub, 1) := by decide +kernel
theorem dX4_stepNumber_91 : decode cX4_stepNumber 91 = .ok (.iconst 2, 1) := by decide +kernel
theorem dX4_stepNumber_92 : decode cX4_stepNumber 92 = .ok (.if_icmp .gt 7, 3) := by decide +kernel
theorem dX4_stepNumber_95 : decode cX4_stepNumber 95 = .ok (.iconst 2, 1) := by decide +kernel
theorem dX4_stepNumber_96 : decode cX4_stepNumber 96 = .ok (.goto 4, 3) := by decide +kernel
theorem dX4_stepNumber_99 : decode cX4_stepNumber 99 = .ok (.iconst 4, 1) := by decide +kernel
theorem dX4_stepNumber_100 : decode cX4_stepNumber 100 = .ok (.putfield 31, 3) := by decide +kernel
theorem dX4_stepNumber_103 : decode cX4_stepNumber 103 = .ok (.return_, 1) := by decide +kernel
theorem dX4_isLetter_0 : decode cX4_isLetter 0 = .ok (.aload_n 0, 1) := by decide +kernel
theorem dX4_isLetter_1 : decode cX4_isLetter 1 = .ok (.getfield 11, 3) := by decide +kernel
theorem dX4_isLetter_4 : decode cX4_isLetter 4 = .ok (.iload_n 1, 1) := by decide +kernel
theorem dX4_isLetter_5 : decode cX4_isLetter 5 = .ok (.baload, 1) := by decide +kernel
theorem dX4_isLetter_6 : decode cX4_isLetter 6 = .ok (.bipush 97, 2) := by decide +kernel
theorem dX4_isLetter_8 : decode cX4_isLetter 8 = .ok (.if_icmp .lt 18, 3) := by decide +kernel
theorem dX4_isLetter_11 : decode cX4_isLetter 11 = .ok (.aload_n 0, 1) := by decide +kernel
theorem dX4_isLetter_12 : decode cX4_isLetter 12 = .ok (.getfield 11, 3) := by decide +kernel
theorem dX4_isLetter_15 : decode cX4_isLetter 15 = .ok (.iload_n 1, 1) := by decide +kernel
theorem dX4_isLetter_16 : decode cX4_isLetter 16 = .ok (.baload, 1) := by decide +kernel
theorem dX4_isLetter_17 : decode cX4_isLetter 17 = .ok (.bipush 122, 2) := by decide +kernel
theorem dX4_isLetter_19 : decode cX4_isLetter 19 = .ok (.if_icmp .gt 7, 3) := by decide +kernel
theorem dX4_isLetter_22 : decode cX4_isLetter 22 = .ok (.iconst 1, 1) := by decide +kernel
theorem dX4_isLetter_23 : decode cX4_isLetter 23 = .ok (.goto 4, 3) := by decide +kernel
theorem dX4_isLetter_26 : decode cX4_isLetter 26 = .ok (.iconst 0, 1) := by decide +kernel
theorem dX4_isLetter_27 : decode cX4_isLetter 27 = .ok (.ireturn, 1) := by decide +kernel
theorem dX4_isFigure_0 : decode cX4_isFigure 0 = .ok (.aload_n 0, 1) := by decide +kernel
theorem dX4_isFigure_1 : decode cX4_isFigure 1 = .ok (.getfield 11, 3) := by decide +kernel
theorem dX4_isFigure_4 : decode cX4_isFigure 4 = .ok (.iload_n 1, 1) := by decide +kernel
theorem dX4_isFigure_5 : decode cX4_isFigure 5 = .ok (.baload, 1) := by decide +kernel
theorem dX4_isFigure_6 : decode cX4_isFigure 6 = .ok (.bipush 48, 2) := by decide +kernel
theorem dX4_isFigure_8 : decode cX4_isFigure 8 = .ok (.if_icmp .lt 18, 3) := by decide +kernel
theorem dX4_isFigure_11 : decode cX4_isFigure 11 = .ok (.aload_n 0, 1) := by decide +kernel
theorem dX4_isFigure_12 : decode cX4_isFigure 12 = .ok (.getfield 11, 3) := by decide +kernel
theorem dX4_isFigure_15 : decode cX4_isFigure 15 = .ok (.iload_n 1, 1) := by decide +kernel
theorem dX4_isFigure_16 : decode cX4_isFigure 16 = .ok (.baload, 1) := by decide +kernel
theorem dX4_isFigure_17 : decode cX4_isFigure 17 = .ok (.bipush 57, 2) := by decide +kernel
theorem dX4_isFigure_19 : decode cX4_isFigure 19 = .ok (.if_icmp .gt 7, 3) := by decide +kernel
theorem dX4_isFigure_22 : decode cX4_isFigure 22 = .ok (.iconst 1, 1) := by decide +kernel
theorem dX4_isFigure_23 : decode cX4_isFigure 23 = .ok (.goto 4, 3) := by decide +kernel
theorem dX4_isFigure_26 : decode cX4_isFigure 26 = .ok (.iconst 0, 1) := by decide +kernel
theorem dX4_isFigure_27 : decode cX4_isFigure 27 = .ok (.ireturn, 1) := by decide +kernel
theorem dX4_wordNumber_0 : decode cX4_wordNumber 0 = .ok (.aload_n 0, 1) := by decide +kernel
theorem dX4_wordNumber_1 : decode cX4_wordNumber 1 = .ok (.ldc 109, 2) := by decide +kernel
theorem dX4_wordNumber_3 : decode cX4_wordNumber 3 = .ok (.invokevirtual 111, 3) := by decide +kernel
theorem dX4_wordNumber_6 : decode cX4_wordNumber 6 = .ok (.ifCond .eq 7, 3) := by decide +kernel
theorem dX4_wordNumber_9 : decode cX4_wordNumber 9 = .ok (.iconst 0, 1) := by decide +kernel
theorem dX4_wordNumber_10 : decode cX4_wordNumber 10 = .ok (.goto 56, 3) := by decide +kernel
theorem dX4_wordNumber_13 : decode cX4_wordNumber 13 = .ok (.aload_n 0, 1) := by decide +kernel
theorem dX4_wordNumber_14 : decode cX4_wordNumber 14 = .ok (.ldc 115, 2) := by decide +kernel
theorem dX4_wordNumber_16 : decode cX4_wordNumber 16 = .ok (.invokevirtual 111, 3) := by decide +kernel
theorem dX4_wordNumber_19 : decode cX4_wordNumber 19 = .ok (.ifCond .eq 7, 3) := by decide +kernel
theorem dX4_wordNumber_22 : decode cX4_wordNumber 22 = .ok (.iconst 1, 1) := by decide +kernel
theorem dX4_wordNumber_23 : decode cX4_wordNumber 23 = .ok (.goto 43, 3) := by decide +kernel
theorem dX4_wordNumber_26 : decode cX4_wordNumber 26 = .ok (.aload_n 0, 1) := by decide +kernel
theorem dX4_wordNumber_27 : decode cX4_wordNumber 27 = .ok (.ldc 117, 2) := by decide +kernel
theorem dX4_wordNumber_29 : decode cX4_wordNumber 29 = .ok (.invokevirtual 111, 3) := by decide +kernel
theorem dX4_wordNumber_32 : decode cX4_wordNumber 32 = .ok (.ifCond .eq 7, 3) := by decide +kernel
theorem dX4_wordNumber_35 : decode cX4_wordNumber 35 = .ok (.iconst 2, 1) := by decide +kernel
theorem dX4_wordNumber_36 : decode cX4_wordNumber 36 = .ok (.goto 30, 3) := by decide +kernel
theorem dX4_wordNumber_39 : decode cX4_wordNumber 39 = .ok (.aload_n 0, 1) := by decide +kernel
theorem dX4_wordNumber_40 : decode cX4_wordNumber 40 = .ok (.ldc 119, 2) := by decide +kernel
theorem dX4_wordNumber_42 : decode cX4_wordNumber 42 = .ok (.invokevirtual 111, 3) := by decide +kernel
theorem dX4_wordNumber_45 : decode cX4_wordNumber 45 = .ok (.ifCond .eq 7, 3) := by decide +kernel
theorem dX4_wordNumber_48 : decode cX4_wordNumber 48 = .ok (.iconst 3, 1) := by decide +kernel
theorem dX4_wordNumber_49 : decode cX4_wordNumber 49 = .ok (.goto 17, 3) := by decide +kernel
theorem dX4_wordNumber_52 : decode cX4_wordNumber 52 = .ok (.aload_n 0, 1) := by decide +kernel
theorem dX4_wordNumber_53 : decode cX4_wordNumber 53 = .ok (.ldc 121, 2) := by decide +kernel
theorem dX4_wordNumber_55 : decode cX4_wordNumber 55 = .ok (.invokevirtual 111, 3) := by decide +kernel
theorem dX4_wordNumber_58 : decode cX4_wordNumber 58 = .ok (.ifCond .eq 7, 3) := by decide +kernel
theorem dX4_wordNumber_61 : decode cX4_wordNumber 61 = .ok (.iconst 4, 1) := by decide +kernel
theorem dX4_wordNumber_62 : decode cX4_wordNumber 62 = .ok (.goto 4, 3) := by decide +kernel
theorem dX4_wordNumber_65 : decode cX4_wordNumber 65 = .ok (.iconst (-1), 1) := by decide +kernel
theorem dX4_wordNumber_66 : decode cX4_wordNumber 66 = .ok (.ireturn, 1) := by decide +kernel
theorem dX4_isWord_0 : decode cX4_isWord 0 = .ok (.aload_n 0, 1) := by decide +kernel
theorem dX4_isWord_1 : decode cX4_isWord 1 = .ok (.getfield 24, 3) := by decide +kernel
theorem dX4_isWord_4 : decode cX4_isWord 4 = .ok (.aload_n 0, 1) := by decide +kernel
theorem dX4_isWord_5 : decode cX4_isWord 5 = .ok (.getfield 90, 3) := by decide +kernel
theorem dX4_isWord_8 : decode cX4_isWord 8 = .ok (.isub, 1) := by decide +kernel
theorem dX4_isWord_9 : decode cX4_isWord 9 = .ok (.aload_n 1, 1) := by decide +kernel
theorem dX4_isWord_10 : decode cX4_isWord 10 = .ok (.invokevirtual 123, 3) := by decide +kernel
theorem dX4_isWord_13 : decode cX4_isWord 13 = .ok (.if_icmp .eq 5, 3) := by decide +kernel
theorem dX4_isWord_16 : decode cX4_isWord 16 = .ok (.iconst 0, 1) := by decide +kernel
theorem dX4_isWord_17 : decode cX4_isWord 17 = .ok (.ireturn, 1) := by decide +kernel
theorem dX4_isWord_18 : decode cX4_isWord 18 = .ok (.iconst 0, 1) := by decide +kernel
theorem dX4_isWord_19 : decode cX4_isWord 19 = .ok (.istore_n 2, 1) := by decide +kernel
theorem dX4_isWord_20 : decode cX4_isWord 20 = .ok (.iload_n 2, 1) := by decide +kernel
theorem dX4_isWord_21 : decode cX4_isWord 21 = .ok (.aload_n 1, 1) := by decide +kernel
theorem dX4_isWord_22 : decode cX4_isWord 22 = .ok (.invokevirtual 123, 3) := by decide +kernel
theorem dX4_isWord_25 : decode cX4_isWord 25 = .ok (.if_icmp .ge 30, 3) := by decide +kernel
theorem dX4_isWord_28 : decode cX4_isWord 28 = .ok (.aload_n 0, 1) := by decide +kernel
theorem dX4_isWord_29 : decode cX4_isWord 29 = .ok (.getfield 11, 3) := by decide +kernel
theorem dX4_isWord_32 : decode cX4_isWord 32 = .ok (.aload_n 0, 1) := by decide +kernel
theorem dX4_isWord_33 : decode cX4_isWord 33 = .ok (.getfield 90, 3) := by decide +kernel
theorem dX4_isWord_36 : decode cX4_isWord 36 = .ok (.iload_n 2, 1) := by decide +kernel
theorem dX4_isWord_37 : decode cX4_isWord 37 = .ok (.iadd, 1) := by decide +kernel
theorem dX4_isWord_38 : decode cX4_isWord 38 = .ok (.baload, 1) := by decide +kernel
theorem dX4_isWord_39 : decode cX4_isWord 39 = .ok (.aload_n 1, 1) := by decide +kernel
theorem dX4_isWord_40 : decode cX4_isWord 40 = .ok (.iload_n 2, 1) := by decide +kernel
end
section
theorem dX4_isWord_41 : decode cX4_isWord 41 = .ok (.invokevirtual 127, 3) := by decide +kernel
theorem dX4_isWord_44 : decode cX4_isWord 44 = .ok (.if_icmp .eq 5, 3) := by decide +kernel
theorem dX4_isWord_47 : decode cX4_isWord 47 = .ok (.iconst 0, 1) := by decide +kernel
theorem dX4_isWord_48 : decode cX4_isWord 48 = .ok (.ireturn, 1) := by decide +kernel
theorem dX4_isWord_49 : decode cX4_isWord 49 = .ok (.iinc 2 1, 3) := by decide +kernel
theorem dX4_isWord_52 : decode cX4_isWord 52 = .ok (.goto (-32), 3) := by decide +kernel
theorem dX4_isWord_55 : decode cX4_isWord 55 = .ok (.iconst 1, 1) := by decide +kernel
theorem dX4_isWord_56 : decode cX4_isWord 56 = .ok (.ireturn, 1) := by decide +kernel
theorem dX5_init_0 : decode cX5_init 0 = .ok (.aload_n 0, 1) := by decide +kernel
theorem dX5_init_1 : decode cX5_init 1 = .ok (.invokespecial 1, 3) := by decide +kernel
theorem dX5_init_4 : decode cX5_init 4 = .ok (.aload_n 0, 1) := by decide +kernel
theorem dX5_init_5 : decode cX5_init 5 = .ok (.new 7, 3) := by decide +kernel
theorem dX5_init_8 : decode cX5_init 8 = .ok (.dup, 1) := by decide +kernel
theorem dX5_init_9 : decode cX5_init 9 = .ok (.invokespecial 9, 3) := by decide +kernel
theorem dX5_init_12 : decode cX5_init 12 = .ok (.putfield 10, 3) := by decide +kernel
theorem dX5_init_15 : decode cX5_init 15 = .ok (.aload_n 0, 1) := by decide +kernel
theorem dX5_init_16 : decode cX5_init 16 = .ok (.new 7, 3) := by decide +kernel
theorem dX5_init_19 : decode cX5_init 19 = .ok (.dup, 1) := by decide +kernel
theorem dX5_init_20 : decode cX5_init 20 = .ok (.invokespecial 9, 3) := by decide +kernel
theorem dX5_init_23 : decode cX5_init 23 = .ok (.putfield 16, 3) := by decide +kernel
theorem dX5_init_26 : decode cX5_init 26 = .ok (.aload_n 0, 1) := by decide +kernel
theorem dX5_init_27 : decode cX5_init 27 = .ok (.iconst 2, 1) := by decide +kernel
theorem dX5_init_28 : decode cX5_init 28 = .ok (.anewarray 7, 3) := by decide +kernel
theorem dX5_init_31 : decode cX5_init 31 = .ok (.putfield 19, 3) := by decide +kernel
theorem dX5_init_34 : decode cX5_init 34 = .ok (.aload_n 0, 1) := by decide +kernel
theorem dX5_init_35 : decode cX5_init 35 = .ok (.iconst 2, 1) := by decide +kernel
theorem dX5_init_36 : decode cX5_init 36 = .ok (.newarray .boolean, 2) := by decide +kernel
theorem dX5_init_38 : decode cX5_init 38 = .ok (.putfield 23, 3) := by decide +kernel
theorem dX5_init_41 : decode cX5_init 41 = .ok (.aload_n 0, 1) := by decide +kernel
theorem dX5_init_42 : decode cX5_init 42 = .ok (.new 27, 3) := by decide +kernel
theorem dX5_init_45 : decode cX5_init 45 = .ok (.dup, 1) := by decide +kernel
theorem dX5_init_46 : decode cX5_init 46 = .ok (.invokespecial 29, 3) := by decide +kernel
theorem dX5_init_49 : decode cX5_init 49 = .ok (.putfield 30, 3) := by decide +kernel
theorem dX5_init_52 : decode cX5_init 52 = .ok (.aload_n 0, 1) := by decide +kernel
theorem dX5_init_53 : decode cX5_init 53 = .ok (.new 34, 3) := by decide +kernel
theorem dX5_init_56 : decode cX5_init 56 = .ok (.dup, 1) := by decide +kernel
theorem dX5_init_57 : decode cX5_init 57 = .ok (.invokespecial 36, 3) := by decide +kernel
theorem dX5_init_60 : decode cX5_init 60 = .ok (.putfield 37, 3) := by decide +kernel
theorem dX5_init_63 : decode cX5_init 63 = .ok (.aload_n 0, 1) := by decide +kernel
theorem dX5_init_64 : decode cX5_init 64 = .ok (.new 41, 3) := by decide +kernel
theorem dX5_init_67 : decode cX5_init 67 = .ok (.dup, 1) := by decide +kernel
theorem dX5_init_68 : decode cX5_init 68 = .ok (.invokespecial 43, 3) := by decide +kernel
theorem dX5_init_71 : decode cX5_init 71 = .ok (.putfield 44, 3) := by decide +kernel
theorem dX5_init_74 : decode cX5_init 74 = .ok (.aload_n 0, 1) := by decide +kernel
theorem dX5_init_75 : decode cX5_init 75 = .ok (.bipush 7, 2) := by decide +kernel
theorem dX5_init_77 : decode cX5_init 77 = .ok (.newarray .int, 2) := by decide +kernel
theorem dX5_init_79 : decode cX5_init 79 = .ok (.putfield 48, 3) := by decide +kernel
theorem dX5_init_82 : decode cX5_init 82 = .ok (.aload_n 0, 1) := by decide +kernel
theorem dX5_init_83 : decode cX5_init 83 = .ok (.bipush 6, 2) := by decide +kernel
theorem dX5_init_85 : decode cX5_init 85 = .ok (.newarray .int, 2) := by decide +kernel
theorem dX5_init_87 : decode cX5_init 87 = .ok (.putfield 52, 3) := by decide +kernel
theorem dX5_init_90 : decode cX5_init 90 = .ok (.aload_n 0, 1) := by decide +kernel
theorem dX5_init_91 : decode cX5_init 91 = .ok (.bipush 7, 2) := by decide +kernel
theorem dX5_init_93 : decode cX5_init 93 = .ok (.newarray .int, 2) := by decide +kernel
theorem dX5_init_95 : decode cX5_init 95 = .ok (.putfield 55, 3) := by decide +kernel
theorem dX5_init_98 : decode cX5_init 98 = .ok (.aload_n 0, 1) := by decide +kernel
theorem dX5_init_99 : decode cX5_init 99 = .ok (.bipush 7, 2) := by decide +kernel
theorem dX5_init_101 : decode cX5_init 101 = .ok (.newarray .int, 2) := by decide +kernel
theorem dX5_init_103 : decode cX5_init 103 = .ok (.putfield 58, 3) := by decide +kernel
theorem dX5_init_106 : decode cX5_init 106 = .ok (.aload_n 0, 1) := by decide +kernel
theorem dX5_init_107 : decode cX5_init 107 = .ok (.iconst 3, 1) := by decide +kernel
theorem dX5_init_108 : decode cX5_init 108 = .ok (.newarray .int, 2) := by decide +kernel
theorem dX5_init_110 : decode cX5_init 110 = .ok (.putfield 61, 3) := by decide +kernel
theorem dX5_init_113 : decode cX5_init 113 = .ok (.aload_n 0, 1) := by decide +kernel
theorem dX5_init_114 : decode cX5_init 114 = .ok (.lconst 0, 1) := by decide +kernel
theorem dX5_init_115 : decode cX5_init 115 = .ok (.putfield 64, 3) := by decide +kernel
theorem dX5_init_118 : decode cX5_init 118 = .ok (.aload_n 0, 1) := by decide +kernel
theorem dX5_init_119 : decode cX5_init 119 = .ok (.lconst 1, 1) := by decide +kernel
theorem dX5_init_120 : decode cX5_init 120 = .ok (.putfield 68, 3) := by decide +kernel
theorem dX5_init_123 : decode cX5_init 123 = .ok (.iconst 0, 1) := by decide +kernel
theorem dX5_init_124 : decode cX5_init 124 = .ok (.istore_n 1, 1) := by decide +kernel
theorem dX5_init_125 : decode cX5_init 125 = .ok (.iload_n 1, 1) := by decide +kernel
theorem dX5_init_126 : decode cX5_init 126 = .ok (.iconst 2, 1) := by decide +kernel
theorem dX5_init_127 : decode cX5_init 127 = .ok (.if_icmp .ge 22, 3) := by decide +kernel
theorem dX5_init_130 : decode cX5_init 130 = .ok (.aload_n 0, 1) := by decide +kernel
theorem dX5_init_131 : decode cX5_init 131 = .ok (.getfield 19, 3) := by decide +kernel
theorem dX5_init_134 : decode cX5_init 134 = .ok (.iload_n 1, 1) := by decide +kernel
theorem dX5_init_135 : decode cX5_init 135 = .ok (.new 7, 3) := by decide +kernel
theorem dX5_init_138 : decode cX5_init 138 = .ok (.dup, 1) := by decide +kernel
theorem dX5_init_139 : decode cX5_init 139 = .ok (.invokespecial 9, 3) := by decide +kernel
theorem dX5_init_142 : decode cX5_init 142 = .ok (.aastore, 1) := by decide +kernel
theorem dX5_init_143 : decode cX5_init 143 = .ok (.iinc 1 1, 3) := by decide +kernel
theorem dX5_init_146 : decode cX5_init 146 = .ok (.goto (-21), 3) := by decide +kernel
theorem dX5_init_149 : decode cX5_init 149 = .ok (.return_, 1) := by decide +kernel
theorem dX5_chapter_0 : decode cX5_chapter 0 = .ok (.aload_n 0, 1) := by decide +kernel
theorem dX5_chapter_1 : decode cX5_chapter 1 = .ok (.getfield 10, 3) := by decide +kernel
theorem dX5_chapter_4 : decode cX5_chapter 4 = .ok (.getfield 71, 3) := by decide +kernel
theorem dX5_chapter_7 : decode cX5_chapter 7 = .ok (.istore_n 1, 1) := by decide +kernel
theorem dX5_chapter_8 : decode cX5_chapter 8 = .ok (.aload_n 0, 1) := by decide +kernel
theorem dX5_chapter_9 : decode cX5_chapter 9 = .ok (.getfield 10, 3) := by decide +kernel
theorem dX5_chapter_12 : decode cX5_chapter 12 = .ok (.invokevirtual 75, 3) := by decide +kernel
theorem dX5_chapter_15 : decode cX5_chapter 15 = .ok (.iload_n 1, 1) := by decide +kernel
theorem dX5_chapter_16 : decode cX5_chapter 16 = .ok (.ireturn, 1) := by decide +kernel
theorem dX5_seat_0 : decode cX5_seat 0 = .ok (.iload_n 1, 1) := by decide +kernel
theorem dX5_seat_1 : decode cX5_seat 1 = .ok (.invokestatic 78, 3) := by decide +kernel
theorem dX5_seat_4 : decode cX5_seat 4 = .ok (.ifCond .eq 20, 3) := by decide +kernel
theorem dX5_seat_7 : decode cX5_seat 7 = .ok (.iload_n 2, 1) := by decide +kernel
theorem dX5_seat_8 : decode cX5_seat 8 = .ok (.invokestatic 82, 3) := by decide +kernel
theorem dX5_seat_11 : decode cX5_seat 11 = .ok (.ifCond .eq 13, 3) := by decide +kernel
theorem dX5_seat_14 : decode cX5_seat 14 = .ok (.iload_n 3, 1) := by decide +kernel
theorem dX5_seat_15 : decode cX5_seat 15 = .ok (.iconst 0, 1) := by decide +kernel
theorem dX5_seat_16 : decode cX5_seat 16 = .ok (.bipush 40, 2) := by decide +kernel
theorem dX5_seat_18 : decode cX5_seat 18 = .ok (.invokestatic 85, 3) := by decide +kernel
theorem dX5_seat_21 : decode cX5_seat 21 = .ok (.ifCond .ne 10, 3) := by decide +kernel
theorem dX5_seat_24 : decode cX5_seat 24 = .ok (.aload_n 0, 1) := by decide +kernel
theorem dX5_seat_25 : decode cX5_seat 25 = .ok (.bipush (-2), 2) := by decide +kernel
theorem dX5_seat_27 : decode cX5_seat 27 = .ok (.invokevirtual 89, 3) := by decide +kernel
theorem dX5_seat_30 : decode cX5_seat 30 = .ok (.ireturn, 1) := by decide +kernel
theorem dX5_seat_31 : decode cX5_seat 31 = .ok (.aload_n 0, 1) := by decide +kernel
theorem dX5_seat_32 : decode cX5_seat 32 = .ok (.getfield 10, 3) := by decide +kernel
theorem dX5_seat_35 : decode cX5_seat 35 = .ok (.getfield 93, 3) := by decide +kernel
theorem dX5_seat_38 : decode cX5_seat 38 = .ok (.bipush 7, 2) := by decide +kernel
theorem dX5_seat_40 : decode cX5_seat 40 = .ok (.if_icmp .lt 10, 3) := by decide +kernel
theorem dX5_seat_43 : decode cX5_seat 43 = .ok (.aload_n 0, 1) := by decide +kernel
theorem dX5_seat_44 : decode cX5_seat 44 = .ok (.bipush (-4), 2) := by decide +kernel
theorem dX5_seat_46 : decode cX5_seat 46 = .ok (.invokevirtual 89, 3) := by decide +kernel
theorem dX5_seat_49 : decode cX5_seat 49 = .ok (.ireturn, 1) := by decide +kernel
theorem dX5_seat_50 : decode cX5_seat 50 = .ok (.aload_n 0, 1) := by decide +kernel
theorem dX5_seat_51 : decode cX5_seat 51 = .ok (.getfield 10, 3) := by decide +kernel
theorem dX5_seat_54 : decode cX5_seat 54 = .ok (.iload_n 1, 1) := by decide +kernel
theorem dX5_seat_55 : decode cX5_seat 55 = .ok (.iload_n 2, 1) := by decide +kernel
theorem dX5_seat_56 : decode cX5_seat 56 = .ok (.iload_n 3, 1) := by decide +kernel
theorem dX5_seat_57 : decode cX5_seat 57 = .ok (.invokevirtual 96, 3) := by decide +kernel
theorem dX5_seat_60 : decode cX5_seat 60 = .ok (.ireturn, 1) := by decide +kernel
theorem dX5_canon_0 : decode cX5_canon 0 = .ok (.iload_n 1, 1) := by decide +kernel
theorem dX5_canon_1 : decode cX5_canon 1 = .ok (.invokestatic 78, 3) := by decide +kernel
theorem dX5_canon_4 : decode cX5_canon 4 = .ok (.ifCond .eq 13, 3) := by decide +kernel
theorem dX5_canon_7 : decode cX5_canon 7 = .ok (.iload_n 2, 1) := by decide +kernel
theorem dX5_canon_8 : decode cX5_canon 8 = .ok (.iconst 1, 1) := by decide +kernel
theorem dX5_canon_9 : decode cX5_canon 9 = .ok (.bipush 9, 2) := by decide +kernel
theorem dX5_canon_11 : decode cX5_canon 11 = .ok (.invokestatic 85, 3) := by decide +kernel
theorem dX5_canon_14 : decode cX5_canon 14 = .ok (.ifCond .ne 10, 3) := by decide +kernel
theorem dX5_canon_17 : decode cX5_canon 17 = .ok (.aload_n 0, 1) := by decide +kernel
theorem dX5_canon_18 : decode cX5_canon 18 = .ok (.bipush (-2), 2) := by decide +kernel
theorem dX5_canon_20 : decode cX5_canon 20 = .ok (.invokevirtual 89, 3) := by decide +kernel
theorem dX5_canon_23 : decode cX5_canon 23 = .ok (.ireturn, 1) := by decide +kernel
theorem dX5_canon_24 : decode cX5_canon 24 = .ok (.aload_n 0, 1) := by decide +kernel
theorem dX5_canon_25 : decode cX5_canon 25 = .ok (.getfield 10, 3) := by decide +kernel
theorem dX5_canon_28 : decode cX5_canon 28 = .ok (.getfield 71, 3) := by decide +kernel
theorem dX5_canon_31 : decode cX5_canon 31 = .ok (.iconst 5, 1) := by decide +kernel
theorem dX5_canon_32 : decode cX5_canon 32 = .ok (.if_icmp .lt 10, 3) := by decide +kernel
theorem dX5_canon_35 : decode cX5_canon 35 = .ok (.aload_n 0, 1) := by decide +kernel
theorem dX5_canon_36 : decode cX5_canon 36 = .ok (.bipush (-4), 2) := by decide +kernel
theorem dX5_canon_38 : decode cX5_canon 38 = .ok (.invokevirtual 89, 3) := by decide +kernel
theorem dX5_canon_41 : decode cX5_canon 41 = .ok (.ireturn, 1) := by decide +kernel
theorem dX5_canon_42 : decode cX5_canon 42 = .ok (.aload_n 0, 1) := by decide +kernel
theorem dX5_canon_43 : decode cX5_canon 43 = .ok (.getfield 10, 3) := by decide +kernel
theorem dX5_canon_46 : decode cX5_canon 46 = .ok (.iload_n 1, 1) := by decide +kernel
theorem dX5_canon_47 : decode cX5_canon 47 = .ok (.iload_n 2, 1) := by decide +kernel
theorem dX5_canon_48 : decode cX5_canon 48 = .ok (.invokevirtual 100, 3) := by decide +kernel
theorem dX5_canon_51 : decode cX5_canon 51 = .ok (.ireturn, 1) := by decide +kernel
theorem dX5_type_0 : decode cX5_type 0 = .ok (.iload_n 1, 1) := by decide +kernel
theorem dX5_type_1 : decode cX5_type 1 = .ok (.iconst 0, 1) := by decide +kernel
theorem dX5_type_2 : decode cX5_type 2 = .ok (.bipush 127, 2) := by decide +kernel
theorem dX5_type_4 : decode cX5_type 4 = .ok (.invokestatic 85, 3) := by decide +kernel
theorem dX5_type_7 : decode cX5_type 7 = .ok (.ifCond .ne 10, 3) := by decide +kernel
theorem dX5_type_10 : decode cX5_type 10 = .ok (.aload_n 0, 1) := by decide +kernel
theorem dX5_type_11 : decode cX5_type 11 = .ok (.bipush (-2), 2) := by decide +kernel
theorem dX5_type_13 : decode cX5_type 13 = .ok (.invokevirtual 89, 3) := by decide +kernel
theorem dX5_type_16 : decode cX5_type 16 = .ok (.ireturn, 1) := by decide +kernel
theorem dX5_type_17 : decode cX5_type 17 = .ok (.aload_n 0, 1) := by decide +kernel
theorem dX5_type_18 : decode cX5_type 18 = .ok (.getfield 37, 3) := by decide +kernel
theorem dX5_type_21 : decode cX5_type 21 = .ok (.getfield 104, 3) := by decide +kernel
theorem dX5_type_24 : decode cX5_type 24 = .ok (.sipush 150, 3) := by decide +kernel
theorem dX5_type_27 : decode cX5_type 27 = .ok (.if_icmp .lt 10, 3) := by decide +kernel
theorem dX5_type_30 : decode cX5_type 30 = .ok (.aload_n 0, 1) := by decide +kernel
theorem dX5_type_31 : decode cX5_type 31 = .ok (.bipush (-4), 2) := by decide +kernel
theorem dX5_type_33 : decode cX5_type 33 = .ok (.invokevirtual 89, 3) := by decide +kernel
theorem dX5_type_36 : decode cX5_type 36 = .ok (.ireturn, 1) := by decide +kernel
theorem dX5_type_37 : decode cX5_type 37 = .ok (.aload_n 0, 1) := by decide +kernel
theorem dX5_type_38 : decode cX5_type 38 = .ok (.getfield 37, 3) := by decide +kernel
theorem dX5_type_41 : decode cX5_type 41 = .ok (.getfield 107, 3) := by decide +kernel
theorem dX5_type_44 : decode cX5_type 44 = .ok (.aload_n 0, 1) := by decide +kernel
theorem dX5_type_45 : decode cX5_type 45 = .ok (.getfield 37, 3) := by decide +kernel
theorem dX5_type_48 : decode cX5_type 48 = .ok (.getfield 104, 3) := by decide +kernel
theorem dX5_type_51 : decode cX5_type 51 = .ok (.iload_n 1, 1) := by decide +kernel
theorem dX5_type_52 : decode cX5_type 52 = .ok (.i2b, 1) := by decide +kernel
theorem dX5_type_53 : decode cX5_type 53 = .ok (.bastore, 1) := by decide +kernel
theorem dX5_type_54 : decode cX5_type 54 = .ok (.aload_n 0, 1) := by decide +kernel
theorem dX5_type_55 : decode cX5_type 55 = .ok (.getfield 37, 3) := by decide +kernel
theorem dX5_type_58 : decode cX5_type 58 = .ok (.dup, 1) := by decide +kernel
theorem dX5_type_59 : decode cX5_type 59 = .ok (.getfield 104, 3) := by decide +kernel
theorem dX5_type_62 : decode cX5_type 62 = .ok (.iconst 1, 1) := by decide +kernel
theorem dX5_type_63 : decode cX5_type 63 = .ok (.iadd, 1) := by decide +kernel
theorem dX5_type_64 : decode cX5_type 64 = .ok (.putfield 104, 3) := by decide +kernel
theorem dX5_type_67 : decode cX5_type 67 = .ok (.aload_n 0, 1) := by decide +kernel
theorem dX5_type_68 : decode cX5_type 68 = .ok (.getfield 37, 3) := by decide +kernel
theorem dX5_type_71 : decode cX5_type 71 = .ok (.getfield 104, 3) := by decide +kernel
theorem dX5_type_74 : decode cX5_type 74 = .ok (.ireturn, 1) := by decide +kernel
theorem dX5_clear_0 : decode cX5_clear 0 = .ok (.aload_n 0, 1) := by decide +kernel
theorem dX5_clear_1 : decode cX5_clear 1 = .ok (.getfield 37, 3) := by decide +kernel
theorem dX5_clear_4 : decode cX5_clear 4 = .ok (.getfield 104, 3) := by decide +kernel
theorem dX5_clear_7 : decode cX5_clear 7 = .ok (.istore_n 1, 1) := by decide +kernel
theorem dX5_clear_8 : decode cX5_clear 8 = .ok (.aload_n 0, 1) := by decide +kernel
theorem dX5_clear_9 : decode cX5_clear 9 = .ok (.getfield 37, 3) := by decide +kernel
theorem dX5_clear_12 : decode cX5_clear 12 = .ok (.iconst 0, 1) := by decide +kernel
theorem dX5_clear_13 : decode cX5_clear 13 = .ok (.putfield 104, 3) := by decide +kernel
theorem dX5_clear_16 : decode cX5_clear 16 = .ok (.iload_n 1, 1) := by decide +kernel
theorem dX5_clear_17 : decode cX5_clear 17 = .ok (.ireturn, 1) := by decide +kernel
theorem dX5_read_0 : decode cX5_read 0 = .ok (.aload_n 0, 1) := by decide +kernel
theorem dX5_read_1 : decode cX5_read 1 = .ok (.getfield 37, 3) := by decide +kernel
theorem dX5_read_4 : decode cX5_read 4 = .ok (.aload_n 0, 1) := by decide +kernel
theorem dX5_read_5 : decode cX5_read 5 = .ok (.getfield 16, 3) := by decide +kernel
theorem dX5_read_8 : decode cX5_read 8 = .ok (.invokevirtual 111, 3) := by decide +kernel
theorem dX5_read_11 : decode cX5_read 11 = .ok (.istore_n 1, 1) := by decide +kernel
theorem dX5_read_12 : decode cX5_read 12 = .ok (.iload_n 1, 1) := by decide +kernel
theorem dX5_read_13 : decode cX5_read 13 = .ok (.iconst (-1), 1) := by decide +kernel
theorem dX5_read_14 : decode cX5_read 14 = .ok (.if_icmp .ne 14, 3) := by decide +kernel
theorem dX5_read_17 : decode cX5_read 17 = .ok (.bipush (-10), 2) := by decide +kernel
theorem dX5_read_19 : decode cX5_read 19 = .ok (.aload_n 0, 1) := by decide +kernel
theorem dX5_read_20 : decode cX5_read 20 = .ok (.getfield 37, 3) := by decide +kernel
theorem dX5_read_23 : decode cX5_read 23 = .ok (.getfield 115, 3) := by decide +kernel
theorem dX5_read_26 : decode cX5_read 26 = .ok (.isub, 1) := by decide +kernel
theorem dX5_read_27 : decode cX5_read 27 = .ok (.ireturn, 1) := by decide +kernel
theorem dX5_read_28 : decode cX5_read 28 = .ok (.aload_n 0, 1) := by decide +kernel
theorem dX5_read_29 : decode cX5_read 29 = .ok (.getfield 10, 3) := by decide +kernel
theorem dX5_read_32 : decode cX5_read 32 = .ok (.aload_n 0, 1) := by decide +kernel
theorem dX5_read_33 : decode cX5_read 33 = .ok (.getfield 16, 3) := by decide +kernel
theorem dX5_read_36 : decode cX5_read 36 = .ok (.invokevirtual 118, 3) := by decide +kernel
theorem dX5_read_39 : decode cX5_read 39 = .ok (.iload_n 1, 1) := by decide +kernel
theorem dX5_read_40 : decode cX5_read 40 = .ok (.ireturn, 1) := by decide +kernel
theorem dX5_sits_0 : decode cX5_sits 0 = .ok (.aload_n 0, 1) := by decide +kernel
theorem dX5_sits_1 : decode cX5_sits 1 = .ok (.iload_n 1, 1) := by decide +kernel
theorem dX5_sits_2 : decode cX5_sits 2 = .ok (.invokevirtual 122, 3) := by decide +kernel
theorem dX5_sits_5 : decode cX5_sits 5 = .ok (.ifCond .eq 11, 3) := by decide +kernel
theorem dX5_sits_8 : decode cX5_sits 8 = .ok (.aload_n 0, 1) := by decide +kernel
theorem dX5_sits_9 : decode cX5_sits 9 = .ok (.iload_n 2, 1) := by decide +kernel
theorem dX5_sits_10 : decode cX5_sits 10 = .ok (.invokevirtual 125, 3) := by decide +kernel
theorem dX5_sits_13 : decode cX5_sits 13 = .ok (.ifCond .ne 10, 3) := by decide +kernel
theorem dX5_sits_16 : decode cX5_sits 16 = .ok (.aload_n 0, 1) := by decide +kernel
theorem dX5_sits_17 : decode cX5_sits 17 = .ok (.bipush (-10), 2) := by decide +kernel
theorem dX5_sits_19 : decode cX5_sits 19 = .ok (.invokevirtual 128, 3) := by decide +kernel
theorem dX5_sits_22 : decode cX5_sits 22 = .ok (.ireturn, 1) := by decide +kernel
theorem dX5_sits_23 : decode cX5_sits 23 = .ok (.aload_n 0, 1) := by decide +kernel
theorem dX5_sits_24 : decode cX5_sits 24 = .ok (.getfield 10, 3) := by decide +kernel
theorem dX5_sits_27 : decode cX5_sits 27 = .ok (.getfield 131, 3) := by decide +kernel
theorem dX5_sits_30 : decode cX5_sits 30 = .ok (.iload_n 1, 1) := by decide +kernel
theorem dX5_sits_31 : decode cX5_sits 31 = .ok (.iload_n 2, 1) := by decide +kernel
theorem dX5_sits_32 : decode cX5_sits 32 = .ok (.invokevirtual 134, 3) := by decide +kernel
theorem dX5_sits_35 : decode cX5_sits 35 = .ok (.ifCond .eq 10, 3) := by decide +kernel
theorem dX5_sits_38 : decode cX5_sits 38 = .ok (.aload_n 0, 1) := by decide +kernel
theorem dX5_sits_39 : decode cX5_sits 39 = .ok (.bipush (-3), 2) := by decide +kernel
theorem dX5_sits_41 : decode cX5_sits 41 = .ok (.invokevirtual 89, 3) := by decide +kernel
theorem dX5_sits_44 : decode cX5_sits 44 = .ok (.ireturn, 1) := by decide +kernel
theorem dX5_sits_45 : decode cX5_sits 45 = .ok (.aload_n 0, 1) := by decide +kernel
theorem dX5_sits_46 : decode cX5_sits 46 = .ok (.getfield 10, 3) := by decide +kernel
theorem dX5_sits_49 : decode cX5_sits 49 = .ok (.invokevirtual 138, 3) := by decide +kernel
theorem dX5_sits_52 : decode cX5_sits 52 = .ok (.aload_n 0, 1) := by decide +kernel
theorem dX5_sits_53 : decode cX5_sits 53 = .ok (.getfield 10, 3) := by decide +kernel
theorem dX5_sits_56 : decode cX5_sits 56 = .ok (.getfield 131, 3) := by decide +kernel
theorem dX5_sits_59 : decode cX5_sits 59 = .ok (.getfield 141, 3) := by decide +kernel
theorem dX5_sits_62 : decode cX5_sits 62 = .ok (.iload_n 1, 1) := by decide +kernel
theorem dX5_sits_63 : decode cX5_sits 63 = .ok (.iaload, 1) := by decide +kernel
theorem dX5_sits_64 : decode cX5_sits 64 = .ok (.istore_n 3, 1) := by decide +kernel
theorem dX5_sits_65 : decode cX5_sits 65 = .ok (.aload_n 0, 1) := by decide +kernel
theorem dX5_sits_66 : decode cX5_sits 66 = .ok (.getfield 10, 3) := by decide +kernel
theorem dX5_sits_69 : decode cX5_sits 69 = .ok (.getfield 131, 3) := by decide +kernel
theorem dX5_sits_72 : decode cX5_sits 72 = .ok (.getfield 141, 3) := by decide +kernel
theorem dX5_sits_75 : decode cX5_sits 75 = .ok (.iload_n 1, 1) := by decide +kernel
theorem dX5_sits_76 : decode cX5_sits 76 = .ok (.iload_n 2, 1) := by decide +kernel
theorem dX5_sits_77 : decode cX5_sits 77 = .ok (.iastore, 1) := by decide +kernel
theorem dX5_sits_78 : decode cX5_sits 78 = .ok (.iload_n 3, 1) := by decide +kernel
theorem dX5_sits_79 : decode cX5_sits 79 = .ok (.ireturn, 1) := by decide +kernel
theorem dX5_swap_0 : decode cX5_swap 0 = .ok (.aload_n 0, 1) := by decide +kernel
theorem dX5_swap_1 : decode cX5_swap 1 = .ok (.iload_n 1, 1) := by decide +kernel
theorem dX5_swap_2 : decode cX5_swap 2 = .ok (.invokevirtual 122, 3) := by decide +kernel
theorem dX5_swap_5 : decode cX5_swap 5 = .ok (.ifCond .eq 16, 3) := by decide +kernel
theorem dX5_swap_8 : decode cX5_swap 8 = .ok (.aload_n 0, 1) := by decide +kernel
theorem dX5_swap_9 : decode cX5_swap 9 = .ok (.iload_n 2, 1) := by decide +kernel
theorem dX5_swap_10 : decode cX5_swap 10 = .ok (.invokevirtual 122, 3) := by decide +kernel
theorem dX5_swap_13 : decode cX5_swap 13 = .ok (.ifCond .eq 8, 3) := by decide +kernel
theorem dX5_swap_16 : decode cX5_swap 16 = .ok (.iload_n 1, 1) := by decide +kernel
theorem dX5_swap_17 : decode cX5_swap 17 = .ok (.iload_n 2, 1) := by decide +kernel
theorem dX5_swap_18 : decode cX5_swap 18 = .ok (.if_icmp .ne 10, 3) := by decide +kernel
theorem dX5_swap_21 : decode cX5_swap 21 = .ok (.aload_n 0, 1) := by decide +kernel
theorem dX5_swap_22 : decode cX5_swap 22 = .ok (.bipush (-2), 2) := by decide +kernel
theorem dX5_swap_24 : decode cX5_swap 24 = .ok (.invokevirtual 89, 3) := by decide +kernel
theorem dX5_swap_27 : decode cX5_swap 27 = .ok (.ireturn, 1) := by decide +kernel
theorem dX5_swap_28 : decode cX5_swap 28 = .ok (.aload_n 0, 1) := by decide +kernel
theorem dX5_swap_29 : decode cX5_swap 29 = .ok (.getfield 10, 3) := by decide +kernel
theorem dX5_swap_32 : decode cX5_swap 32 = .ok (.invokevirtual 138, 3) := by decide +kernel
theorem dX5_swap_35 : decode cX5_swap 35 = .ok (.aload_n 0, 1) := by decide +kernel
theorem dX5_swap_36 : decode cX5_swap 36 = .ok (.getfield 10, 3) := by decide +kernel
theorem dX5_swap_39 : decode cX5_swap 39 = .ok (.getfield 131, 3) := by decide +kernel
theorem dX5_swap_42 : decode cX5_swap 42 = .ok (.iload_n 1, 1) := by decide +kernel
theorem dX5_swap_43 : decode cX5_swap 43 = .ok (.iload_n 2, 1) := by decide +kernel
theorem dX5_swap_44 : decode cX5_swap 44 = .ok (.invokevirtual 144, 3) := by decide +kernel
theorem dX5_swap_47 : decode cX5_swap 47 = .ok (.iconst 1, 1) := by decide +kernel
theorem dX5_swap_48 : decode cX5_swap 48 = .ok (.ireturn, 1) := by decide +kernel
theorem dX5_year_0 : decode cX5_year 0 = .ok (.iload_n 1, 1) := by decide +kernel
theorem dX5_year_1 : decode cX5_year 1 = .ok (.iconst 1, 1) := by decide +kernel
theorem dX5_year_2 : decode cX5_year 2 = .ok (.bipush 30, 2) := by decide +kernel
theorem dX5_year_4 : decode cX5_year 4 = .ok (.invokestatic 85, 3) := by decide +kernel
theorem dX5_year_7 : decode cX5_year 7 = .ok (.ifCond .ne 10, 3) := by decide +kernel
theorem dX5_year_10 : decode cX5_year 10 = .ok (.aload_n 0, 1) := by decide +kernel
theorem dX5_year_11 : decode cX5_year 11 = .ok (.bipush (-2), 2) := by decide +kernel
theorem dX5_year_13 : decode cX5_year 13 = .ok (.invokevirtual 89, 3) := by decide +kernel
theorem dX5_year_16 : decode cX5_year 16 = .ok (.ireturn, 1) := by decide +kernel
theorem dX5_year_17 : decode cX5_year 17 = .ok (.aload_n 0, 1) := by decide +kernel
theorem dX5_year_18 : decode cX5_year 18 = .ok (.getfield 10, 3) := by decide +kernel
theorem dX5_year_21 : decode cX5_year 21 = .ok (.invokevirtual 138, 3) := by decide +kernel
theorem dX5_year_24 : decode cX5_year 24 = .ok (.aload_n 0, 1) := by decide +kernel
theorem dX5_year_25 : decode cX5_year 25 = .ok (.getfield 10, 3) := by decide +kernel
theorem dX5_year_28 : decode cX5_year 28 = .ok (.iload_n 1, 1) := by decide +kernel
theorem dX5_year_29 : decode cX5_year 29 = .ok (.invokevirtual 148, 3) := by decide +kernel
theorem dX5_year_32 : decode cX5_year 32 = .ok (.aload_n 0, 1) := by decide +kernel
theorem dX5_year_33 : decode cX5_year 33 = .ok (.getfield 10, 3) := by decide +kernel
theorem dX5_year_36 : decode cX5_year 36 = .ok (.getfield 131, 3) := by decide +kernel
theorem dX5_year_39 : decode cX5_year 39 = .ok (.invokevirtual 152, 3) := by decide +kernel
theorem dX5_year_42 : decode cX5_year 42 = .ok (.ireturn, 1) := by decide +kernel
theorem dX5_undo_0 : decode cX5_undo 0 = .ok (.aload_n 0, 1) := by decide +kernel
theorem dX5_undo_1 : decode cX5_undo 1 = .ok (.getfield 10, 3) := by decide +kernel
theorem dX5_undo_4 : decode cX5_undo 4 = .ok (.getfield 156, 3) := by decide +kernel
theorem dX5_undo_7 : decode cX5_undo 7 = .ok (.iconst 1, 1) := by decide +kernel
theorem dX5_undo_8 : decode cX5_undo 8 = .ok (.if_icmp .ge 10, 3) := by decide +kernel
theorem dX5_undo_11 : decode cX5_undo 11 = .ok (.aload_n 0, 1) := by decide +kernel
theorem dX5_undo_12 : decode cX5_undo 12 = .ok (.bipush (-3), 2) := by decide +kernel
theorem dX5_undo_14 : decode cX5_undo 14 = .ok (.invokevirtual 89, 3) := by decide +kernel
theorem dX5_undo_17 : decode cX5_undo 17 = .ok (.ireturn, 1) := by decide +kernel
theorem dX5_undo_18 : decode cX5_undo 18 = .ok (.aload_n 0, 1) := by decide +kernel
theorem dX5_undo_19 : decode cX5_undo 19 = .ok (.getfield 10, 3) := by decide +kernel
theorem dX5_undo_22 : decode cX5_undo 22 = .ok (.invokevirtual 159, 3) := by decide +kernel
theorem dX5_undo_25 : decode cX5_undo 25 = .ok (.aload_n 0, 1) := by decide +kernel
theorem dX5_undo_26 : decode cX5_undo 26 = .ok (.getfield 10, 3) := by decide +kernel
theorem dX5_undo_29 : decode cX5_undo 29 = .ok (.getfield 131, 3) := by decide +kernel
theorem dX5_undo_32 : decode cX5_undo 32 = .ok (.getfield 162, 3) := by decide +kernel
theorem dX5_undo_35 : decode cX5_undo 35 = .ok (.ireturn, 1) := by decide +kernel
theorem dX5_of_0 : decode cX5_of 0 = .ok (.aload_n 0, 1) := by decide +kernel
theorem dX5_of_1 : decode cX5_of 1 = .ok (.iload_n 1, 1) := by decide +kernel
theorem dX5_of_2 : decode cX5_of 2 = .ok (.invokevirtual 165, 3) := by decide +kernel
theorem dX5_of_5 : decode cX5_of 5 = .ok (.ifCond .eq 12, 3) := by decide +kernel
theorem dX5_of_8 : decode cX5_of 8 = .ok (.iload_n 2, 1) := by decide +kernel
theorem dX5_of_9 : decode cX5_of 9 = .ok (.iconst 0, 1) := by decide +kernel
theorem dX5_of_10 : decode cX5_of 10 = .ok (.iconst 3, 1) := by decide +kernel
theorem dX5_of_11 : decode cX5_of 11 = .ok (.invokestatic 85, 3) := by decide +kernel
theorem dX5_of_14 : decode cX5_of 14 = .ok (.ifCond .ne 10, 3) := by decide +kernel
theorem dX5_of_17 : decode cX5_of 17 = .ok (.aload_n 0, 1) := by decide +kernel
theorem dX5_of_18 : decode cX5_of 18 = .ok (.bipush (-10), 2) := by decide +kernel
theorem dX5_of_20 : decode cX5_of 20 = .ok (.invokevirtual 128, 3) := by decide +kernel
theorem dX5_of_23 : decode cX5_of 23 = .ok (.ireturn, 1) := by decide +kernel
theorem dX5_of_24 : decode cX5_of 24 = .ok (.iload_n 2, 1) := by decide +kernel
theorem dX5_of_25 : decode cX5_of 25 = .ok (.tableswitch 60 0 2 #[27, 37, 47], 27) := by decide +kernel
theorem dX5_of_52 : decode cX5_of 52 = .ok (.aload_n 0, 1) := by decide +kernel
theorem dX5_of_53 : decode cX5_of 53 = .ok (.getfield 10, 3) := by decide +kernel
theorem dX5_of_56 : decode cX5_of 56 = .ok (.getfield 168, 3) := by decide +kernel
theorem dX5_of_59 : decode cX5_of 59 = .ok (.iload_n 1, 1) := by decide +kernel
theorem dX5_of_60 : decode cX5_of 60 = .ok (.iaload, 1) := by decide +kernel
theorem dX5_of_61 : decode cX5_of 61 = .ok (.ireturn, 1) := by decide +kernel
theorem dX5_of_62 : decode cX5_of 62 = .ok (.aload_n 0, 1) := by decide +kernel
theorem dX5_of_63 : decode cX5_of 63 = .ok (.getfield 10, 3) := by decide +kernel
theorem dX5_of_66 : decode cX5_of 66 = .ok (.getfield 171, 3) := by decide +kernel
theorem dX5_of_69 : decode cX5_of 69 = .ok (.iload_n 1, 1) := by decide +kernel
theorem dX5_of_70 : decode cX5_of 70 = .ok (.iaload, 1) := by decide +kernel
theorem dX5_of_71 : decode cX5_of 71 = .ok (.ireturn, 1) := by decide +kernel
theorem dX5_of_72 : decode cX5_of 72 = .ok (.aload_n 0, 1) := by decide +kernel
theorem dX5_of_73 : decode cX5_of 73 = .ok (.getfield 10, 3) := by decide +kernel
theorem dX5_of_76 : decode cX5_of 76 = .ok (.getfield 131, 3) := by decide +kernel
theorem dX5_of_79 : decode cX5_of 79 = .ok (.getfield 174, 3) := by decide +kernel
theorem dX5_of_82 : decode cX5_of 82 = .ok (.iload_n 1, 1) := by decide +kernel
theorem dX5_of_83 : decode cX5_of 83 = .ok (.iaload, 1) := by decide +kernel
theorem dX5_of_84 : decode cX5_of 84 = .ok (.ireturn, 1) := by decide +kernel
theorem dX5_of_85 : decode cX5_of 85 = .ok (.aload_n 0, 1) := by decide +kernel
theorem dX5_of_86 : decode cX5_of 86 = .ok (.getfield 10, 3) := by decide +kernel
theorem dX5_of_89 : decode cX5_of 89 = .ok (.getfield 131, 3) := by decide +kernel
theorem dX5_of_92 : decode cX5_of 92 = .ok (.iload_n 1, 1) := by decide +kernel
theorem dX5_of_93 : decode cX5_of 93 = .ok (.invokevirtual 177, 3) := by decide +kernel
theorem dX5_of_96 : decode cX5_of 96 = .ok (.ireturn, 1) := by decide +kernel
theorem dX5_about_0 : decode cX5_about 0 = .ok (.aload_n 0, 1) := by decide +kernel
theorem dX5_about_1 : decode cX5_about 1 = .ok (.iload_n 1, 1) := by decide +kernel
theorem dX5_about_2 : decode cX5_about 2 = .ok (.invokevirtual 122, 3) := by decide +kernel
theorem dX5_about_5 : decode cX5_about 5 = .ok (.ifCond .eq 12, 3) := by decide +kernel
theorem dX5_about_8 : decode cX5_about 8 = .ok (.iload_n 2, 1) := by decide +kernel
theorem dX5_about_9 : decode cX5_about 9 = .ok (.iconst 0, 1) := by decide +kernel
theorem dX5_about_10 : decode cX5_about 10 = .ok (.iconst 4, 1) := by decide +kernel
theorem dX5_about_11 : decode cX5_about 11 = .ok (.invokestatic 85, 3) := by decide +kernel
theorem dX5_about_14 : decode cX5_about 14 = .ok (.ifCond .ne 10, 3) := by decide +kernel
theorem dX5_about_17 : decode cX5_about 17 = .ok (.aload_n 0, 1) := by decide +kernel
theorem dX5_about_18 : decode cX5_about 18 = .ok (.bipush (-10), 2) := by decide +kernel
theorem dX5_about_20 : decode cX5_about 20 = .ok (.invokevirtual 128, 3) := by decide +kernel
theorem dX5_about_23 : decode cX5_about 23 = .ok (.ireturn, 1) := by decide +kernel
theorem dX5_about_24 : decode cX5_about 24 = .ok (.iload_n 2, 1) := by decide +kernel
theorem dX5_about_25 : decode cX5_about 25 = .ok (.tableswitch 76 0 3 #[31, 41, 51, 64], 31) := by decide +kernel
theorem dX5_about_56 : decode cX5_about 56 = .ok (.aload_n 0, 1) := by decide +kernel
theorem dX5_about_57 : decode cX5_about 57 = .ok (.getfield 10, 3) := by decide +kernel
theorem dX5_about_60 : decode cX5_about 60 = .ok (.getfield 180, 3) := by decide +kernel
theorem dX5_about_63 : decode cX5_about 63 = .ok (.iload_n 1, 1) := by decide +kernel
theorem dX5_about_64 : decode cX5_about 64 = .ok (.iaload, 1) := by decide +kernel
theorem dX5_about_65 : decode cX5_about 65 = .ok (.ireturn, 1) := by decide +kernel
theorem dX5_about_66 : decode cX5_about 66 = .ok (.aload_n 0, 1) := by decide +kernel
theorem dX5_about_67 : decode cX5_about 67 = .ok (.getfield 10, 3) := by decide +kernel
theorem dX5_about_70 : decode cX5_about 70 = .ok (.getfield 183, 3) := by decide +kernel
theorem dX5_about_73 : decode cX5_about 73 = .ok (.iload_n 1, 1) := by decide +kernel
theorem dX5_about_74 : decode cX5_about 74 = .ok (.iaload, 1) := by decide +kernel
theorem dX5_about_75 : decode cX5_about 75 = .ok (.ireturn, 1) := by decide +kernel
theorem dX5_about_76 : decode cX5_about 76 = .ok (.aload_n 0, 1) := by decide +kernel
theorem dX5_about_77 : decode cX5_about 77 = .ok (.getfield 10, 3) := by decide +kernel
theorem dX5_about_80 : decode cX5_about 80 = .ok (.getfield 131, 3) := by decide +kernel
theorem dX5_about_83 : decode cX5_about 83 = .ok (.getfield 141, 3) := by decide +kernel
theorem dX5_about_86 : decode cX5_about 86 = .ok (.iload_n 1, 1) := by decide +kernel
theorem dX5_about_87 : decode cX5_about 87 = .ok (.iaload, 1) := by decide +kernel
theorem dX5_about_88 : decode cX5_about 88 = .ok (.ireturn, 1) := by decide +kernel
theorem dX5_about_89 : decode cX5_about 89 = .ok (.aload_n 0, 1) := by decide +kernel
theorem dX5_about_90 : decode cX5_about 90 = .ok (.getfield 10, 3) := by decide +kernel
theorem dX5_about_93 : decode cX5_about 93 = .ok (.getfield 131, 3) := by decide +kernel
theorem dX5_about_96 : decode cX5_about 96 = .ok (.iload_n 1, 1) := by decide +kernel
theorem dX5_about_97 : decode cX5_about 97 = .ok (.invokevirtual 186, 3) := by decide +kernel
theorem dX5_about_100 : decode cX5_about 100 = .ok (.ireturn, 1) := by decide +kernel
theorem dX5_about_101 : decode cX5_about 101 = .ok (.aload_n 0, 1) := by decide +kernel
theorem dX5_about_102 : decode cX5_about 102 = .ok (.getfield 10, 3) := by decide +kernel
theorem dX5_about_105 : decode cX5_about 105 = .ok (.getfield 189, 3) := by decide +kernel
theorem dX5_about_108 : decode cX5_about 108 = .ok (.iload_n 1, 1) := by decide +kernel
theorem dX5_about_109 : decode cX5_about 109 = .ok (.iaload, 1) := by decide +kernel
theorem dX5_about_110 : decode cX5_about 110 = .ok (.ireturn, 1) := by decide +kernel
theorem dX5_taken_0 : decode cX5_taken 0 = .ok (.aload_n 0, 1) := by decide +kernel
theorem dX5_taken_1 : decode cX5_taken 1 = .ok (.iload_n 1, 1) := by decide +kernel
theorem dX5_taken_2 : decode cX5_taken 2 = .ok (.invokevirtual 122, 3) := by decide +kernel
theorem dX5_taken_5 : decode cX5_taken 5 = .ok (.ifCond .eq 10, 3) := by decide +kernel
theorem dX5_taken_8 : decode cX5_taken 8 = .ok (.iload_n 2, 1) := by decide +kernel
theorem dX5_taken_9 : decode cX5_taken 9 = .ok (.invokestatic 82, 3) := by decide +kernel
theorem dX5_taken_12 : decode cX5_taken 12 = .ok (.ifCond .ne 10, 3) := by decide +kernel
theorem dX5_taken_15 : decode cX5_taken 15 = .ok (.aload_n 0, 1) := by decide +kernel
theorem dX5_taken_16 : decode cX5_taken 16 = .ok (.bipush (-2), 2) := by decide +kernel
theorem dX5_taken_18 : decode cX5_taken 18 = .ok (.invokevirtual 89, 3) := by decide +kernel
theorem dX5_taken_21 : decode cX5_taken 21 = .ok (.ireturn, 1) := by decide +kernel
theorem dX5_taken_22 : decode cX5_taken 22 = .ok (.aload_n 0, 1) := by decide +kernel
theorem dX5_taken_23 : decode cX5_taken 23 = .ok (.getfield 10, 3) := by decide +kernel
theorem dX5_taken_26 : decode cX5_taken 26 = .ok (.getfield 131, 3) := by decide +kernel
theorem dX5_taken_29 : decode cX5_taken 29 = .ok (.iload_n 1, 1) := by decide +kernel
theorem dX5_taken_30 : decode cX5_taken 30 = .ok (.iload_n 2, 1) := by decide +kernel
theorem dX5_taken_31 : decode cX5_taken 31 = .ok (.invokevirtual 192, 3) := by decide +kernel
theorem dX5_taken_34 : decode cX5_taken 34 = .ok (.ireturn, 1) := by decide +kernel
theorem dX5_takes_0 : decode cX5_takes 0 = .ok (.aload_n 0, 1) := by decide +kernel
theorem dX5_takes_1 : decode cX5_takes 1 = .ok (.iload_n 1, 1) := by decide +kernel
theorem dX5_takes_2 : decode cX5_takes 2 = .ok (.invokevirtual 122, 3) := by decide +kernel
theorem dX5_takes_5 : decode cX5_takes 5 = .ok (.ifCond .eq 11, 3) := by decide +kernel
theorem dX5_takes_8 : decode cX5_takes 8 = .ok (.aload_n 0, 1) := by decide +kernel
theorem dX5_takes_9 : decode cX5_takes 9 = .ok (.iload_n 2, 1) := by decide +kernel
theorem dX5_takes_10 : decode cX5_takes 10 = .ok (.invokevirtual 165, 3) := by decide +kernel
theorem dX5_takes_13 : decode cX5_takes 13 = .ok (.ifCond .ne 10, 3) := by decide +kernel
theorem dX5_takes_16 : decode cX5_takes 16 = .ok (.aload_n 0, 1) := by decide +kernel
theorem dX5_takes_17 : decode cX5_takes 17 = .ok (.bipush (-2), 2) := by decide +kernel
theorem dX5_takes_19 : decode cX5_takes 19 = .ok (.invokevirtual 89, 3) := by decide +kernel
theorem dX5_takes_22 : decode cX5_takes 22 = .ok (.ireturn, 1) := by decide +kernel
theorem dX5_takes_23 : decode cX5_takes 23 = .ok (.aload_n 0, 1) := by decide +kernel
theorem dX5_takes_24 : decode cX5_takes 24 = .ok (.getfield 10, 3) := by decide +kernel
theorem dX5_takes_27 : decode cX5_takes 27 = .ok (.aload_n 0, 1) := by decide +kernel
theorem dX5_takes_28 : decode cX5_takes 28 = .ok (.getfield 10, 3) := by decide +kernel
theorem dX5_takes_31 : decode cX5_takes 31 = .ok (.getfield 131, 3) := by decide +kernel
theorem dX5_takes_34 : decode cX5_takes 34 = .ok (.iload_n 1, 1) := by decide +kernel
theorem dX5_takes_35 : decode cX5_takes 35 = .ok (.iload_n 2, 1) := by decide +kernel
theorem dX5_takes_36 : decode cX5_takes 36 = .ok (.invokevirtual 195, 3) := by decide +kernel
theorem dX5_takes_39 : decode cX5_takes 39 = .ok (.ireturn, 1) := by decide +kernel
theorem dX5_then_0 : decode cX5_then 0 = .ok (.aload_n 0, 1) := by decide +kernel
theorem dX5_then_1 : decode cX5_then 1 = .ok (.iload_n 1, 1) := by decide +kernel
theorem dX5_then_2 : decode cX5_then 2 = .ok (.invokevirtual 122, 3) := by decide +kernel
theorem dX5_then_5 : decode cX5_then 5 = .ok (.ifCond .eq 17, 3) := by decide +kernel
theorem dX5_then_8 : decode cX5_then 8 = .ok (.iload_n 2, 1) := by decide +kernel
theorem dX5_then_9 : decode cX5_then 9 = .ok (.invokestatic 82, 3) := by decide +kernel
theorem dX5_then_12 : decode cX5_then 12 = .ok (.ifCond .eq 10, 3) := by decide +kernel
theorem dX5_then_15 : decode cX5_then 15 = .ok (.iload_n 3, 1) := by decide +kernel
theorem dX5_then_16 : decode cX5_then 16 = .ok (.invokestatic 199, 3) := by decide +kernel
theorem dX5_then_19 : decode cX5_then 19 = .ok (.ifCond .ne 10, 3) := by decide +kernel
theorem dX5_then_22 : decode cX5_then 22 = .ok (.aload_n 0, 1) := by decide +kernel
theorem dX5_then_23 : decode cX5_then 23 = .ok (.bipush (-2), 2) := by decide +kernel
theorem dX5_then_25 : decode cX5_then 25 = .ok (.invokevirtual 89, 3) := by decide +kernel
theorem dX5_then_28 : decode cX5_then 28 = .ok (.ireturn, 1) := by decide +kernel
theorem dX5_then_29 : decode cX5_then 29 = .ok (.aload_n 0, 1) := by decide +kernel
theorem dX5_then_30 : decode cX5_then 30 = .ok (.iload_n 3, 1) := by decide +kernel
theorem dX5_then_31 : decode cX5_then 31 = .ok (.invokevirtual 202, 3) := by decide +kernel
theorem dX5_then_34 : decode cX5_then 34 = .ok (.aload_n 0, 1) := by decide +kernel
theorem dX5_then_35 : decode cX5_then 35 = .ok (.getfield 30, 3) := by decide +kernel
theorem dX5_then_38 : decode cX5_then 38 = .ok (.iload_n 1, 1) := by decide +kernel
theorem dX5_then_39 : decode cX5_then 39 = .ok (.iload_n 2, 1) := by decide +kernel
theorem dX5_then_40 : decode cX5_then 40 = .ok (.invokevirtual 192, 3) := by decide +kernel
theorem dX5_then_43 : decode cX5_then 43 = .ok (.ireturn, 1) := by decide +kernel
theorem dX5_depth_0 : decode cX5_depth 0 = .ok (.aload_n 0, 1) := by decide +kernel
theorem dX5_depth_1 : decode cX5_depth 1 = .ok (.iload_n 1, 1) := by decide +kernel
theorem dX5_depth_2 : decode cX5_depth 2 = .ok (.invokevirtual 165, 3) := by decide +kernel
theorem dX5_depth_5 : decode cX5_depth 5 = .ok (.ifCond .eq 10, 3) := by decide +kernel
theorem dX5_depth_8 : decode cX5_depth 8 = .ok (.iload_n 2, 1) := by decide +kernel
theorem dX5_depth_9 : decode cX5_depth 9 = .ok (.invokestatic 199, 3) := by decide +kernel
theorem dX5_depth_12 : decode cX5_depth 12 = .ok (.ifCond .ne 10, 3) := by decide +kernel
theorem dX5_depth_15 : decode cX5_depth 15 = .ok (.aload_n 0, 1) := by decide +kernel
theorem dX5_depth_16 : decode cX5_depth 16 = .ok (.bipush (-2), 2) := by decide +kernel
theorem dX5_depth_18 : decode cX5_depth 18 = .ok (.invokevirtual 89, 3) := by decide +kernel
theorem dX5_depth_21 : decode cX5_depth 21 = .ok (.ireturn, 1) := by decide +kernel
theorem dX5_depth_22 : decode cX5_depth 22 = .ok (.aload_n 0, 1) := by decide +kernel
theorem dX5_depth_23 : decode cX5_depth 23 = .ok (.iload_n 2, 1) := by decide +kernel
theorem dX5_depth_24 : decode cX5_depth 24 = .ok (.invokevirtual 202, 3) := by decide +kernel
theorem dX5_depth_27 : decode cX5_depth 27 = .ok (.aload_n 0, 1) := by decide +kernel
theorem dX5_depth_28 : decode cX5_depth 28 = .ok (.getfield 30, 3) := by decide +kernel
theorem dX5_depth_31 : decode cX5_depth 31 = .ok (.getfield 174, 3) := by decide +kernel
theorem dX5_depth_34 : decode cX5_depth 34 = .ok (.iload_n 1, 1) := by decide +kernel
theorem dX5_depth_35 : decode cX5_depth 35 = .ok (.iaload, 1) := by decide +kernel
theorem dX5_depth_36 : decode cX5_depth 36 = .ok (.ireturn, 1) := by decide +kernel
theorem dX5_when_0 : decode cX5_when 0 = .ok (.aload_n 0, 1) := by decide +kernel
theorem dX5_when_1 : decode cX5_when 1 = .ok (.iload_n 1, 1) := by decide +kernel
theorem dX5_when_2 : decode cX5_when 2 = .ok (.invokevirtual 122, 3) := by decide +kernel
theorem dX5_when_5 : decode cX5_when 5 = .ok (.ifCond .eq 20, 3) := by decide +kernel
theorem dX5_when_8 : decode cX5_when 8 = .ok (.iload_n 2, 1) := by decide +kernel
theorem dX5_when_9 : decode cX5_when 9 = .ok (.invokestatic 82, 3) := by decide +kernel
theorem dX5_when_12 : decode cX5_when 12 = .ok (.ifCond .eq 13, 3) := by decide +kernel
theorem dX5_when_15 : decode cX5_when 15 = .ok (.iload_n 3, 1) := by decide +kernel
theorem dX5_when_16 : decode cX5_when 16 = .ok (.iconst 1, 1) := by decide +kernel
theorem dX5_when_17 : decode cX5_when 17 = .ok (.bipush 99, 2) := by decide +kernel
theorem dX5_when_19 : decode cX5_when 19 = .ok (.invokestatic 85, 3) := by decide +kernel
theorem dX5_when_22 : decode cX5_when 22 = .ok (.ifCond .ne 10, 3) := by decide +kernel
theorem dX5_when_25 : decode cX5_when 25 = .ok (.aload_n 0, 1) := by decide +kernel
theorem dX5_when_26 : decode cX5_when 26 = .ok (.bipush (-2), 2) := by decide +kernel
theorem dX5_when_28 : decode cX5_when 28 = .ok (.invokevirtual 89, 3) := by decide +kernel
theorem dX5_when_31 : decode cX5_when 31 = .ok (.ireturn, 1) := by decide +kernel
theorem dX5_when_32 : decode cX5_when 32 = .ok (.aload_n 0, 1) := by decide +kernel
theorem dX5_when_33 : decode cX5_when 33 = .ok (.iload_n 1, 1) := by decide +kernel
theorem dX5_when_34 : decode cX5_when 34 = .ok (.aload_n 0, 1) := by decide +kernel
theorem dX5_when_35 : decode cX5_when 35 = .ok (.getfield 10, 3) := by decide +kernel
theorem dX5_when_38 : decode cX5_when 38 = .ok (.getfield 131, 3) := by decide +kernel
theorem dX5_when_41 : decode cX5_when 41 = .ok (.getfield 141, 3) := by decide +kernel
theorem dX5_when_44 : decode cX5_when 44 = .ok (.iload_n 1, 1) := by decide +kernel
theorem dX5_when_45 : decode cX5_when 45 = .ok (.iaload, 1) := by decide +kernel
theorem dX5_when_46 : decode cX5_when 46 = .ok (.iload_n 2, 1) := by decide +kernel
theorem dX5_when_47 : decode cX5_when 47 = .ok (.iload_n 3, 1) := by decide +kernel
theorem dX5_when_48 : decode cX5_when 48 = .ok (.invokevirtual 205, 3) := by decide +kernel
theorem dX5_when_51 : decode cX5_when 51 = .ok (.ireturn, 1) := by decide +kernel
theorem dX5_first_0 : decode cX5_first 0 = .ok (.iload_n 1, 1) := by decide +kernel
theorem dX5_first_1 : decode cX5_first 1 = .ok (.invokestatic 82, 3) := by decide +kernel
theorem dX5_first_4 : decode cX5_first 4 = .ok (.ifCond .eq 12, 3) := by decide +kernel
theorem dX5_first_7 : decode cX5_first 7 = .ok (.iload_n 2, 1) := by decide +kernel
theorem dX5_first_8 : decode cX5_first 8 = .ok (.iconst 0, 1) := by decide +kernel
theorem dX5_first_9 : decode cX5_first 9 = .ok (.iconst 1, 1) := by decide +kernel
theorem dX5_first_10 : decode cX5_first 10 = .ok (.invokestatic 85, 3) := by decide +kernel
theorem dX5_first_13 : decode cX5_first 13 = .ok (.ifCond .ne 10, 3) := by decide +kernel
theorem dX5_first_16 : decode cX5_first 16 = .ok (.aload_n 0, 1) := by decide +kernel
theorem dX5_first_17 : decode cX5_first 17 = .ok (.bipush (-2), 2) := by decide +kernel
theorem dX5_first_19 : decode cX5_first 19 = .ok (.invokevirtual 89, 3) := by decide +kernel
theorem dX5_first_22 : decode cX5_first 22 = .ok (.ireturn, 1) := by decide +kernel
theorem dX5_first_23 : decode cX5_first 23 = .ok (.aload_n 0, 1) := by decide +kernel
theorem dX5_first_24 : decode cX5_first 24 = .ok (.getfield 30, 3) := by decide +kernel
theorem dX5_first_27 : decode cX5_first 27 = .ok (.aload_n 0, 1) := by decide +kernel
theorem dX5_first_28 : decode cX5_first 28 = .ok (.getfield 10, 3) := by decide +kernel
theorem dX5_first_31 : decode cX5_first 31 = .ok (.getfield 131, 3) := by decide +kernel
theorem dX5_first_34 : decode cX5_first 34 = .ok (.invokevirtual 209, 3) := by decide +kernel
theorem dX5_first_37 : decode cX5_first 37 = .ok (.iconst 0, 1) := by decide +kernel
theorem dX5_first_38 : decode cX5_first 38 = .ok (.istore_n 3, 1) := by decide +kernel
theorem dX5_first_39 : decode cX5_first 39 = .ok (.iload_n 3, 1) := by decide +kernel
theorem dX5_first_40 : decode cX5_first 40 = .ok (.bipush 60, 2) := by decide +kernel
theorem dX5_first_42 : decode cX5_first 42 = .ok (.if_icmp .gt 54, 3) := by decide +kernel
theorem dX5_first_45 : decode cX5_first 45 = .ok (.aload_n 0, 1) := by decide +kernel
theorem dX5_first_46 : decode cX5_first 46 = .ok (.getfield 30, 3) := by decide +kernel
theorem dX5_first_49 : decode cX5_first 49 = .ok (.iload_n 1, 1) := by decide +kernel
theorem dX5_first_50 : decode cX5_first 50 = .ok (.aload_n 0, 1) := by decide +kernel
theorem dX5_first_51 : decode cX5_first 51 = .ok (.getfield 10, 3) := by decide +kernel
theorem dX5_first_54 : decode cX5_first 54 = .ok (.getfield 71, 3) := by decide +kernel
theorem dX5_first_57 : decode cX5_first 57 = .ok (.invokevirtual 212, 3) := by decide +kernel
theorem dX5_first_60 : decode cX5_first 60 = .ok (.istore 4, 2) := by decide +kernel
theorem dX5_first_62 : decode cX5_first 62 = .ok (.iload 4, 2) := by decide +kernel
theorem dX5_first_64 : decode cX5_first 64 = .ok (.iconst (-1), 1) := by decide +kernel
theorem dX5_first_65 : decode cX5_first 65 = .ok (.if_icmp .eq 14, 3) := by decide +kernel
theorem dX5_first_68 : decode cX5_first 68 = .ok (.iload_n 2, 1) := by decide +kernel
theorem dX5_first_69 : decode cX5_first 69 = .ok (.ifCond .ne 8, 3) := by decide +kernel
theorem dX5_first_72 : decode cX5_first 72 = .ok (.iload 4, 2) := by decide +kernel
theorem dX5_first_74 : decode cX5_first 74 = .ok (.goto 4, 3) := by decide +kernel
theorem dX5_first_77 : decode cX5_first 77 = .ok (.iload_n 3, 1) := by decide +kernel
theorem dX5_first_78 : decode cX5_first 78 = .ok (.ireturn, 1) := by decide +kernel
theorem dX5_first_79 : decode cX5_first 79 = .ok (.aload_n 0, 1) := by decide +kernel
theorem dX5_first_80 : decode cX5_first 80 = .ok (.getfield 10, 3) := by decide +kernel
theorem dX5_first_83 : decode cX5_first 83 = .ok (.aload_n 0, 1) := by decide +kernel
theorem dX5_first_84 : decode cX5_first 84 = .ok (.getfield 30, 3) := by decide +kernel
theorem dX5_first_87 : decode cX5_first 87 = .ok (.invokevirtual 215, 3) := by decide +kernel
theorem dX5_first_90 : decode cX5_first 90 = .ok (.iinc 3 1, 3) := by decide +kernel
theorem dX5_first_93 : decode cX5_first 93 = .ok (.goto (-54), 3) := by decide +kernel
theorem dX5_first_96 : decode cX5_first 96 = .ok (.iconst (-1), 1) := by decide +kernel
theorem dX5_first_97 : decode cX5_first 97 = .ok (.ireturn, 1) := by decide +kernel
theorem dX5_blank_0 : decode cX5_blank 0 = .ok (.aload_n 0, 1) := by decide +kernel
theorem dX5_blank_1 : decode cX5_blank 1 = .ok (.iload_n 1, 1) := by decide +kernel
theorem dX5_blank_2 : decode cX5_blank 2 = .ok (.invokevirtual 165, 3) := by decide +kernel
theorem dX5_blank_5 : decode cX5_blank 5 = .ok (.ifCond .ne 10, 3) := by decide +kernel
theorem dX5_blank_8 : decode cX5_blank 8 = .ok (.aload_n 0, 1) := by decide +kernel
theorem dX5_blank_9 : decode cX5_blank 9 = .ok (.bipush (-2), 2) := by decide +kernel
theorem dX5_blank_11 : decode cX5_blank 11 = .ok (.invokevirtual 89, 3) := by decide +kernel
theorem dX5_blank_14 : decode cX5_blank 14 = .ok (.ireturn, 1) := by decide +kernel
theorem dX5_blank_15 : decode cX5_blank 15 = .ok (.aload_n 0, 1) := by decide +kernel
theorem dX5_blank_16 : decode cX5_blank 16 = .ok (.getfield 30, 3) := by decide +kernel
theorem dX5_blank_19 : decode cX5_blank 19 = .ok (.aload_n 0, 1) := by decide +kernel
theorem dX5_blank_20 : decode cX5_blank 20 = .ok (.getfield 10, 3) := by decide +kernel
theorem dX5_blank_23 : decode cX5_blank 23 = .ok (.getfield 131, 3) := by decide +kernel
theorem dX5_blank_26 : decode cX5_blank 26 = .ok (.invokevirtual 209, 3) := by decide +kernel
theorem dX5_blank_29 : decode cX5_blank 29 = .ok (.iconst 0, 1) := by decide +kernel
theorem dX5_blank_30 : decode cX5_blank 30 = .ok (.istore_n 2, 1) := by decide +kernel
theorem dX5_blank_31 : decode cX5_blank 31 = .ok (.iload_n 2, 1) := by decide +kernel
theorem dX5_blank_32 : decode cX5_blank 32 = .ok (.bipush 60, 2) := by decide +kernel
theorem dX5_blank_34 : decode cX5_blank 34 = .ok (.if_icmp .gt 54, 3) := by decide +kernel
theorem dX5_blank_37 : decode cX5_blank 37 = .ok (.aload_n 0, 1) := by decide +kernel
theorem dX5_blank_38 : decode cX5_blank 38 = .ok (.getfield 10, 3) := by decide +kernel
theorem dX5_blank_41 : decode cX5_blank 41 = .ok (.getfield 168, 3) := by decide +kernel
theorem dX5_blank_44 : decode cX5_blank 44 = .ok (.iload_n 1, 1) := by decide +kernel
theorem dX5_blank_45 : decode cX5_blank 45 = .ok (.iaload, 1) := by decide +kernel
theorem dX5_blank_46 : decode cX5_blank 46 = .ok (.aload_n 0, 1) := by decide +kernel
theorem dX5_blank_47 : decode cX5_blank 47 = .ok (.getfield 30, 3) := by decide +kernel
theorem dX5_blank_50 : decode cX5_blank 50 = .ok (.getfield 174, 3) := by decide +kernel
theorem dX5_blank_53 : decode cX5_blank 53 = .ok (.iload_n 1, 1) := by decide +kernel
theorem dX5_blank_54 : decode cX5_blank 54 = .ok (.iaload, 1) := by decide +kernel
theorem dX5_blank_55 : decode cX5_blank 55 = .ok (.aload_n 0, 1) := by decide +kernel
theorem dX5_blank_56 : decode cX5_blank 56 = .ok (.getfield 30, 3) := by decide +kernel
theorem dX5_blank_59 : decode cX5_blank 59 = .ok (.getfield 162, 3) := by decide +kernel
theorem dX5_blank_62 : decode cX5_blank 62 = .ok (.iconst 0, 1) := by decide +kernel
theorem dX5_blank_63 : decode cX5_blank 63 = .ok (.invokestatic 218, 3) := by decide +kernel
theorem dX5_blank_66 : decode cX5_blank 66 = .ok (.ifCond .ne 5, 3) := by decide +kernel
theorem dX5_blank_69 : decode cX5_blank 69 = .ok (.iload_n 2, 1) := by decide +kernel
theorem dX5_blank_70 : decode cX5_blank 70 = .ok (.ireturn, 1) := by decide +kernel
theorem dX5_blank_71 : decode cX5_blank 71 = .ok (.aload_n 0, 1) := by decide +kernel
theorem dX5_blank_72 : decode cX5_blank 72 = .ok (.getfield 10, 3) := by decide +kernel
theorem dX5_blank_75 : decode cX5_blank 75 = .ok (.aload_n 0, 1) := by decide +kernel
theorem dX5_blank_76 : decode cX5_blank 76 = .ok (.getfield 30, 3) := by decide +kernel
theorem dX5_blank_79 : decode cX5_blank 79 = .ok (.invokevirtual 215, 3) := by decide +kernel
theorem dX5_blank_82 : decode cX5_blank 82 = .ok (.iinc 2 1, 3) := by decide +kernel
theorem dX5_blank_85 : decode cX5_blank 85 = .ok (.goto (-54), 3) := by decide +kernel
theorem dX5_blank_88 : decode cX5_blank 88 = .ok (.iconst (-1), 1) := by decide +kernel
theorem dX5_blank_89 : decode cX5_blank 89 = .ok (.ireturn, 1) := by decide +kernel
theorem dX5_place_0 : decode cX5_place 0 = .ok (.aload_n 0, 1) := by decide +kernel
theorem dX5_place_1 : decode cX5_place 1 = .ok (.iload_n 1, 1) := by decide +kernel
theorem dX5_place_2 : decode cX5_place 2 = .ok (.invokevirtual 122, 3) := by decide +kernel
theorem dX5_place_5 : decode cX5_place 5 = .ok (.ifCond .eq 30, 3) := by decide +kernel
theorem dX5_place_8 : decode cX5_place 8 = .ok (.iload_n 2, 1) := by decide +kernel
theorem dX5_place_9 : decode cX5_place 9 = .ok (.invokestatic 82, 3) := by decide +kernel
theorem dX5_place_12 : decode cX5_place 12 = .ok (.ifCond .eq 23, 3) := by decide +kernel
theorem dX5_place_15 : decode cX5_place 15 = .ok (.iload_n 3, 1) := by decide +kernel
theorem dX5_place_16 : decode cX5_place 16 = .ok (.iconst 1, 1) := by decide +kernel
theorem dX5_place_17 : decode cX5_place 17 = .ok (.bipush 99, 2) := by decide +kernel
theorem dX5_place_19 : decode cX5_place 19 = .ok (.invokestatic 85, 3) := by decide +kernel
theorem dX5_place_22 : decode cX5_place 22 = .ok (.ifCond .eq 13, 3) := by decide +kernel
theorem dX5_place_25 : decode cX5_place 25 = .ok (.iload 4, 2) := by decide +kernel
theorem dX5_place_27 : decode cX5_place 27 = .ok (.iconst 0, 1) := by decide +kernel
theorem dX5_place_28 : decode cX5_place 28 = .ok (.iconst 1, 1) := by decide +kernel
theorem dX5_place_29 : decode cX5_place 29 = .ok (.invokestatic 85, 3) := by decide +kernel
theorem dX5_place_32 : decode cX5_place 32 = .ok (.ifCond .ne 10, 3) := by decide +kernel
theorem dX5_place_35 : decode cX5_place 35 = .ok (.aload_n 0, 1) := by decide +kernel
theorem dX5_place_36 : decode cX5_place 36 = .ok (.bipush (-2), 2) := by decide +kernel
theorem dX5_place_38 : decode cX5_place 38 = .ok (.invokevirtual 89, 3) := by decide +kernel
theorem dX5_place_41 : decode cX5_place 41 = .ok (.ireturn, 1) := by decide +kernel
theorem dX5_place_42 : decode cX5_place 42 = .ok (.iconst (-1), 1) := by decide +kernel
theorem dX5_place_43 : decode cX5_place 43 = .ok (.istore 5, 2) := by decide +kernel
theorem dX5_place_45 : decode cX5_place 45 = .ok (.iconst (-1), 1) := by decide +kernel
theorem dX5_place_46 : decode cX5_place 46 = .ok (.istore 6, 2) := by decide +kernel
theorem dX5_place_48 : decode cX5_place 48 = .ok (.iconst 0, 1) := by decide +kernel
theorem dX5_place_49 : decode cX5_place 49 = .ok (.istore 7, 2) := by decide +kernel
theorem dX5_place_51 : decode cX5_place 51 = .ok (.iload 7, 2) := by decide +kernel
theorem dX5_place_53 : decode cX5_place 53 = .ok (.aload_n 0, 1) := by decide +kernel
theorem dX5_place_54 : decode cX5_place 54 = .ok (.getfield 10, 3) := by decide +kernel
theorem dX5_place_57 : decode cX5_place 57 = .ok (.getfield 93, 3) := by decide +kernel
theorem dX5_place_60 : decode cX5_place 60 = .ok (.if_icmp .ge 67, 3) := by decide +kernel
theorem dX5_place_63 : decode cX5_place 63 = .ok (.aload_n 0, 1) := by decide +kernel
theorem dX5_place_64 : decode cX5_place 64 = .ok (.getfield 10, 3) := by decide +kernel
theorem dX5_place_67 : decode cX5_place 67 = .ok (.getfield 131, 3) := by decide +kernel
theorem dX5_place_70 : decode cX5_place 70 = .ok (.iload_n 1, 1) := by decide +kernel
theorem dX5_place_71 : decode cX5_place 71 = .ok (.iload 7, 2) := by decide +kernel
theorem dX5_place_73 : decode cX5_place 73 = .ok (.invokevirtual 134, 3) := by decide +kernel
theorem dX5_place_76 : decode cX5_place 76 = .ok (.ifCond .eq 7, 3) := by decide +kernel
theorem dX5_place_79 : decode cX5_place 79 = .ok (.iconst (-1), 1) := by decide +kernel
theorem dX5_place_80 : decode cX5_place 80 = .ok (.goto 12, 3) := by decide +kernel
theorem dX5_place_83 : decode cX5_place 83 = .ok (.aload_n 0, 1) := by decide +kernel
theorem dX5_place_84 : decode cX5_place 84 = .ok (.iload_n 1, 1) := by decide +kernel
theorem dX5_place_85 : decode cX5_place 85 = .ok (.iload 7, 2) := by decide +kernel
theorem dX5_place_87 : decode cX5_place 87 = .ok (.iload_n 2, 1) := by decide +kernel
theorem dX5_place_88 : decode cX5_place 88 = .ok (.iload_n 3, 1) := by decide +kernel
theorem dX5_place_89 : decode cX5_place 89 = .ok (.invokevirtual 205, 3) := by decide +kernel
theorem dX5_place_92 : decode cX5_place 92 = .ok (.istore 8, 2) := by decide +kernel
theorem dX5_place_94 : decode cX5_place 94 = .ok (.iload 8, 2) := by decide +kernel
theorem dX5_place_96 : decode cX5_place 96 = .ok (.iconst (-1), 1) := by decide +kernel
theorem dX5_place_97 : decode cX5_place 97 = .ok (.if_icmp .eq 24, 3) := by decide +kernel
theorem dX5_place_100 : decode cX5_place 100 = .ok (.iload 6, 2) := by decide +kernel
theorem dX5_place_102 : decode cX5_place 102 = .ok (.iconst (-1), 1) := by decide +kernel
theorem dX5_place_103 : decode cX5_place 103 = .ok (.if_icmp .eq 10, 3) := by decide +kernel
theorem dX5_place_106 : decode cX5_place 106 = .ok (.iload 8, 2) := by decide +kernel
theorem dX5_place_108 : decode cX5_place 108 = .ok (.iload 6, 2) := by decide +kernel
theorem dX5_place_110 : decode cX5_place 110 = .ok (.if_icmp .ge 11, 3) := by decide +kernel
theorem dX5_place_113 : decode cX5_place 113 = .ok (.iload 7, 2) := by decide +kernel
theorem dX5_place_115 : decode cX5_place 115 = .ok (.istore 5, 2) := by decide +kernel
theorem dX5_place_117 : decode cX5_place 117 = .ok (.iload 8, 2) := by decide +kernel
theorem dX5_place_119 : decode cX5_place 119 = .ok (.istore 6, 2) := by decide +kernel
theorem dX5_place_121 : decode cX5_place 121 = .ok (.iinc 7 1, 3) := by decide +kernel
theorem dX5_place_124 : decode cX5_place 124 = .ok (.goto (-73), 3) := by decide +kernel
theorem dX5_place_127 : decode cX5_place 127 = .ok (.iload 4, 2) := by decide +kernel
theorem dX5_place_129 : decode cX5_place 129 = .ok (.ifCond .ne 8, 3) := by decide +kernel
theorem dX5_place_132 : decode cX5_place 132 = .ok (.iload 5, 2) := by decide +kernel
theorem dX5_place_134 : decode cX5_place 134 = .ok (.goto 5, 3) := by decide +kernel
theorem dX5_place_137 : decode cX5_place 137 = .ok (.iload 6, 2) := by decide +kernel
theorem dX5_place_139 : decode cX5_place 139 = .ok (.ireturn, 1) := by decide +kernel
theorem dX5_wish_0 : decode cX5_wish 0 = .ok (.aload_n 0, 1) := by decide +kernel
theorem dX5_wish_1 : decode cX5_wish 1 = .ok (.iload_n 1, 1) := by decide +kernel
theorem dX5_wish_2 : decode cX5_wish 2 = .ok (.invokevirtual 122, 3) := by decide +kernel
theorem dX5_wish_5 : decode cX5_wish 5 = .ok (.ifCond .eq 20, 3) := by decide +kernel
theorem dX5_wish_8 : decode cX5_wish 8 = .ok (.iload_n 2, 1) := by decide +kernel
theorem dX5_wish_9 : decode cX5_wish 9 = .ok (.invokestatic 82, 3) := by decide +kernel
theorem dX5_wish_12 : decode cX5_wish 12 = .ok (.ifCond .eq 13, 3) := by decide +kernel
theorem dX5_wish_15 : decode cX5_wish 15 = .ok (.iload_n 3, 1) := by decide +kernel
theorem dX5_wish_16 : decode cX5_wish 16 = .ok (.iconst 0, 1) := by decide +kernel
theorem dX5_wish_17 : decode cX5_wish 17 = .ok (.bipush 99, 2) := by decide +kernel
theorem dX5_wish_19 : decode cX5_wish 19 = .ok (.invokestatic 85, 3) := by decide +kernel
theorem dX5_wish_22 : decode cX5_wish 22 = .ok (.ifCond .ne 10, 3) := by decide +kernel
theorem dX5_wish_25 : decode cX5_wish 25 = .ok (.aload_n 0, 1) := by decide +kernel
theorem dX5_wish_26 : decode cX5_wish 26 = .ok (.bipush (-2), 2) := by decide +kernel
theorem dX5_wish_28 : decode cX5_wish 28 = .ok (.invokevirtual 89, 3) := by decide +kernel
theorem dX5_wish_31 : decode cX5_wish 31 = .ok (.ireturn, 1) := by decide +kernel
theorem dX5_wish_32 : decode cX5_wish 32 = .ok (.aload_n 0, 1) := by decide +kernel
theorem dX5_wish_33 : decode cX5_wish 33 = .ok (.aload_n 0, 1) := by decide +kernel
theorem dX5_wish_34 : decode cX5_wish 34 = .ok (.getfield 10, 3) := by decide +kernel
theorem dX5_wish_37 : decode cX5_wish 37 = .ok (.getfield 221, 3) := by decide +kernel
theorem dX5_wish_40 : decode cX5_wish 40 = .ok (.iload_n 1, 1) := by decide +kernel
theorem dX5_wish_41 : decode cX5_wish 41 = .ok (.iload_n 2, 1) := by decide +kernel
theorem dX5_wish_42 : decode cX5_wish 42 = .ok (.iload_n 3, 1) := by decide +kernel
theorem dX5_wish_43 : decode cX5_wish 43 = .ok (.iconst 0, 1) := by decide +kernel
theorem dX5_wish_44 : decode cX5_wish 44 = .ok (.iconst 0, 1) := by decide +kernel
theorem dX5_wish_45 : decode cX5_wish 45 = .ok (.invokevirtual 225, 3) := by decide +kernel
theorem dX5_wish_48 : decode cX5_wish 48 = .ok (.ireturn, 1) := by decide +kernel
theorem dX5_seating_0 : decode cX5_seating 0 = .ok (.iload_n 1, 1) := by decide +kernel
theorem dX5_seating_1 : decode cX5_seating 1 = .ok (.iconst 0, 1) := by decide +kernel
theorem dX5_seating_2 : decode cX5_seating 2 = .ok (.bipush 12, 2) := by decide +kernel
theorem dX5_seating_4 : decode cX5_seating 4 = .ok (.invokestatic 85, 3) := by decide +kernel
theorem dX5_seating_7 : decode cX5_seating 7 = .ok (.ifCond .eq 16, 3) := by decide +kernel
theorem dX5_seating_10 : decode cX5_seating 10 = .ok (.iload_n 2, 1) := by decide +kernel
theorem dX5_seating_11 : decode cX5_seating 11 = .ok (.iconst (-1), 1) := by decide +kernel
theorem dX5_seating_12 : decode cX5_seating 12 = .ok (.if_icmp .eq 18, 3) := by decide +kernel
theorem dX5_seating_15 : decode cX5_seating 15 = .ok (.aload_n 0, 1) := by decide +kernel
theorem dX5_seating_16 : decode cX5_seating 16 = .ok (.iload_n 2, 1) := by decide +kernel
theorem dX5_seating_17 : decode cX5_seating 17 = .ok (.invokevirtual 122, 3) := by decide +kernel
theorem dX5_seating_20 : decode cX5_seating 20 = .ok (.ifCond .ne 10, 3) := by decide +kernel
theorem dX5_seating_23 : decode cX5_seating 23 = .ok (.aload_n 0, 1) := by decide +kernel
theorem dX5_seating_24 : decode cX5_seating 24 = .ok (.bipush (-10), 2) := by decide +kernel
theorem dX5_seating_26 : decode cX5_seating 26 = .ok (.invokevirtual 128, 3) := by decide +kernel
theorem dX5_seating_29 : decode cX5_seating 29 = .ok (.ireturn, 1) := by decide +kernel
theorem dX5_seating_30 : decode cX5_seating 30 = .ok (.aload_n 0, 1) := by decide +kernel
theorem dX5_seating_31 : decode cX5_seating 31 = .ok (.getfield 44, 3) := by decide +kernel
theorem dX5_seating_34 : decode cX5_seating 34 = .ok (.aload_n 0, 1) := by decide +kernel
theorem dX5_seating_35 : decode cX5_seating 35 = .ok (.getfield 10, 3) := by decide +kernel
theorem dX5_seating_38 : decode cX5_seating 38 = .ok (.aload_n 0, 1) := by decide +kernel
theorem dX5_seating_39 : decode cX5_seating 39 = .ok (.getfield 30, 3) := by decide +kernel
theorem dX5_seating_42 : decode cX5_seating 42 = .ok (.iload_n 1, 1) := by decide +kernel
theorem dX5_seating_43 : decode cX5_seating 43 = .ok (.invokevirtual 229, 3) := by decide +kernel
theorem dX5_seating_46 : decode cX5_seating 46 = .ok (.iload_n 2, 1) := by decide +kernel
theorem dX5_seating_47 : decode cX5_seating 47 = .ok (.iconst (-1), 1) := by decide +kernel
theorem dX5_seating_48 : decode cX5_seating 48 = .ok (.if_icmp .ne 13, 3) := by decide +kernel
theorem dX5_seating_51 : decode cX5_seating 51 = .ok (.aload_n 0, 1) := by decide +kernel
theorem dX5_seating_52 : decode cX5_seating 52 = .ok (.getfield 44, 3) := by decide +kernel
theorem dX5_seating_55 : decode cX5_seating 55 = .ok (.getfield 233, 3) := by decide +kernel
theorem dX5_seating_58 : decode cX5_seating 58 = .ok (.goto 12, 3) := by decide +kernel
theorem dX5_seating_61 : decode cX5_seating 61 = .ok (.aload_n 0, 1) := by decide +kernel
theorem dX5_seating_62 : decode cX5_seating 62 = .ok (.getfield 44, 3) := by decide +kernel
theorem dX5_seating_65 : decode cX5_seating 65 = .ok (.getfield 236, 3) := by decide +kernel
theorem dX5_seating_68 : decode cX5_seating 68 = .ok (.iload_n 2, 1) := by decide +kernel
theorem dX5_seating_69 : decode cX5_seating 69 = .ok (.iaload, 1) := by decide +kernel
theorem dX5_seating_70 : decode cX5_seating 70 = .ok (.ireturn, 1) := by decide +kernel
theorem dX5_quarrels_0 : decode cX5_quarrels 0 = .ok (.iconst 0, 1) := by decide +kernel
theorem dX5_quarrels_1 : decode cX5_quarrels 1 = .ok (.istore_n 1, 1) := by decide +kernel
theorem dX5_quarrels_2 : decode cX5_quarrels 2 = .ok (.iconst 1, 1) := by decide +kernel
theorem dX5_quarrels_3 : decode cX5_quarrels 3 = .ok (.istore_n 2, 1) := by decide +kernel
theorem dX5_quarrels_4 : decode cX5_quarrels 4 = .ok (.iload_n 2, 1) := by decide +kernel
theorem dX5_quarrels_5 : decode cX5_quarrels 5 = .ok (.aload_n 0, 1) := by decide +kernel
theorem dX5_quarrels_6 : decode cX5_quarrels 6 = .ok (.getfield 10, 3) := by decide +kernel
theorem dX5_quarrels_9 : decode cX5_quarrels 9 = .ok (.getfield 93, 3) := by decide +kernel
theorem dX5_quarrels_12 : decode cX5_quarrels 12 = .ok (.if_icmp .ge 35, 3) := by decide +kernel
theorem dX5_quarrels_15 : decode cX5_quarrels 15 = .ok (.aload_n 0, 1) := by decide +kernel
theorem dX5_quarrels_16 : decode cX5_quarrels 16 = .ok (.getfield 10, 3) := by decide +kernel
theorem dX5_quarrels_19 : decode cX5_quarrels 19 = .ok (.getfield 171, 3) := by decide +kernel
theorem dX5_quarrels_22 : decode cX5_quarrels 22 = .ok (.iload_n 2, 1) := by decide +kernel
theorem dX5_quarrels_23 : decode cX5_quarrels 23 = .ok (.iconst 1, 1) := by decide +kernel
theorem dX5_quarrels_24 : decode cX5_quarrels 24 = .ok (.isub, 1) := by decide +kernel
theorem dX5_quarrels_25 : decode cX5_quarrels 25 = .ok (.iaload, 1) := by decide +kernel
theorem dX5_quarrels_26 : decode cX5_quarrels 26 = .ok (.aload_n 0, 1) := by decide +kernel
theorem dX5_quarrels_27 : decode cX5_quarrels 27 = .ok (.getfield 10, 3) := by decide +kernel
theorem dX5_quarrels_30 : decode cX5_quarrels 30 = .ok (.getfield 171, 3) := by decide +kernel
theorem dX5_quarrels_33 : decode cX5_quarrels 33 = .ok (.iload_n 2, 1) := by decide +kernel
theorem dX5_quarrels_34 : decode cX5_quarrels 34 = .ok (.iaload, 1) := by decide +kernel
theorem dX5_quarrels_35 : decode cX5_quarrels 35 = .ok (.if_icmp .ne 6, 3) := by decide +kernel
theorem dX5_quarrels_38 : decode cX5_quarrels 38 = .ok (.iinc 1 1, 3) := by decide +kernel
theorem dX5_quarrels_41 : decode cX5_quarrels 41 = .ok (.iinc 2 1, 3) := by decide +kernel
theorem dX5_quarrels_44 : decode cX5_quarrels 44 = .ok (.goto (-40), 3) := by decide +kernel
theorem dX5_quarrels_47 : decode cX5_quarrels 47 = .ok (.iload_n 1, 1) := by decide +kernel
theorem dX5_quarrels_48 : decode cX5_quarrels 48 = .ok (.ireturn, 1) := by decide +kernel
theorem dX5_row_0 : decode cX5_row 0 = .ok (.aload_n 0, 1) := by decide +kernel
theorem dX5_row_1 : decode cX5_row 1 = .ok (.iload_n 1, 1) := by decide +kernel
theorem dX5_row_2 : decode cX5_row 2 = .ok (.invokevirtual 165, 3) := by decide +kernel
theorem dX5_row_5 : decode cX5_row 5 = .ok (.ifCond .ne 10, 3) := by decide +kernel
theorem dX5_row_8 : decode cX5_row 8 = .ok (.aload_n 0, 1) := by decide +kernel
theorem dX5_row_9 : decode cX5_row 9 = .ok (.bipush (-2), 2) := by decide +kernel
theorem dX5_row_11 : decode cX5_row 11 = .ok (.invokevirtual 89, 3) := by decide +kernel
theorem dX5_row_14 : decode cX5_row 14 = .ok (.ireturn, 1) := by decide +kernel
theorem dX5_row_15 : decode cX5_row 15 = .ok (.aload_n 0, 1) := by decide +kernel
theorem dX5_row_16 : decode cX5_row 16 = .ok (.getfield 10, 3) := by decide +kernel
theorem dX5_row_19 : decode cX5_row 19 = .ok (.aload_n 0, 1) := by decide +kernel
theorem dX5_row_20 : decode cX5_row 20 = .ok (.getfield 48, 3) := by decide +kernel
theorem dX5_row_23 : decode cX5_row 23 = .ok (.iconst 0, 1) := by decide +kernel
theorem dX5_row_24 : decode cX5_row 24 = .ok (.iconst 0, 1) := by decide +kernel
theorem dX5_row_25 : decode cX5_row 25 = .ok (.invokestatic 239, 3) := by decide +kernel
theorem dX5_row_28 : decode cX5_row 28 = .ok (.ifCond .eq 12, 3) := by decide +kernel
theorem dX5_row_31 : decode cX5_row 31 = .ok (.aload_n 0, 1) := by decide +kernel
theorem dX5_row_32 : decode cX5_row 32 = .ok (.getfield 48, 3) := by decide +kernel
theorem dX5_row_35 : decode cX5_row 35 = .ok (.iload_n 1, 1) := by decide +kernel
theorem dX5_row_36 : decode cX5_row 36 = .ok (.iaload, 1) := by decide +kernel
theorem dX5_row_37 : decode cX5_row 37 = .ok (.goto 4, 3) := by decide +kernel
theorem dX5_row_40 : decode cX5_row 40 = .ok (.iconst (-1), 1) := by decide +kernel
theorem dX5_row_41 : decode cX5_row 41 = .ok (.ireturn, 1) := by decide +kernel
theorem dX5_blur_0 : decode cX5_blur 0 = .ok (.aload_n 0, 1) := by decide +kernel
theorem dX5_blur_1 : decode cX5_blur 1 = .ok (.iload_n 1, 1) := by decide +kernel
theorem dX5_blur_2 : decode cX5_blur 2 = .ok (.invokevirtual 165, 3) := by decide +kernel
theorem dX5_blur_5 : decode cX5_blur 5 = .ok (.ifCond .eq 31, 3) := by decide +kernel
theorem dX5_blur_8 : decode cX5_blur 8 = .ok (.aload_n 0, 1) := by decide +kernel
theorem dX5_blur_9 : decode cX5_blur 9 = .ok (.iload_n 2, 1) := by decide +kernel
theorem dX5_blur_10 : decode cX5_blur 10 = .ok (.invokevirtual 122, 3) := by decide +kernel
theorem dX5_blur_13 : decode cX5_blur 13 = .ok (.ifCond .eq 23, 3) := by decide +kernel
theorem dX5_blur_16 : decode cX5_blur 16 = .ok (.iload_n 3, 1) := by decide +kernel
theorem dX5_blur_17 : decode cX5_blur 17 = .ok (.iconst 0, 1) := by decide +kernel
theorem dX5_blur_18 : decode cX5_blur 18 = .ok (.bipush 20, 2) := by decide +kernel
theorem dX5_blur_20 : decode cX5_blur 20 = .ok (.invokestatic 85, 3) := by decide +kernel
theorem dX5_blur_23 : decode cX5_blur 23 = .ok (.ifCond .eq 13, 3) := by decide +kernel
theorem dX5_blur_26 : decode cX5_blur 26 = .ok (.iload 4, 2) := by decide +kernel
theorem dX5_blur_28 : decode cX5_blur 28 = .ok (.iconst 0, 1) := by decide +kernel
theorem dX5_blur_29 : decode cX5_blur 29 = .ok (.iconst 2, 1) := by decide +kernel
theorem dX5_blur_30 : decode cX5_blur 30 = .ok (.invokestatic 85, 3) := by decide +kernel
theorem dX5_blur_33 : decode cX5_blur 33 = .ok (.ifCond .ne 10, 3) := by decide +kernel
theorem dX5_blur_36 : decode cX5_blur 36 = .ok (.aload_n 0, 1) := by decide +kernel
theorem dX5_blur_37 : decode cX5_blur 37 = .ok (.bipush (-2), 2) := by decide +kernel
theorem dX5_blur_39 : decode cX5_blur 39 = .ok (.invokevirtual 89, 3) := by decide +kernel
theorem dX5_blur_42 : decode cX5_blur 42 = .ok (.ireturn, 1) := by decide +kernel
theorem dX5_blur_43 : decode cX5_blur 43 = .ok (.iload_n 3, 1) := by decide +kernel
theorem dX5_blur_44 : decode cX5_blur 44 = .ok (.aload_n 0, 1) := by decide +kernel
theorem dX5_blur_45 : decode cX5_blur 45 = .ok (.getfield 10, 3) := by decide +kernel
theorem dX5_blur_48 : decode cX5_blur 48 = .ok (.getfield 168, 3) := by decide +kernel
theorem dX5_blur_51 : decode cX5_blur 51 = .ok (.iload_n 1, 1) := by decide +kernel
theorem dX5_blur_52 : decode cX5_blur 52 = .ok (.iaload, 1) := by decide +kernel
theorem dX5_blur_53 : decode cX5_blur 53 = .ok (.aload_n 0, 1) := by decide +kernel
theorem dX5_blur_54 : decode cX5_blur 54 = .ok (.getfield 10, 3) := by decide +kernel
theorem dX5_blur_57 : decode cX5_blur 57 = .ok (.getfield 189, 3) := by decide +kernel
theorem dX5_blur_60 : decode cX5_blur 60 = .ok (.iload_n 2, 1) := by decide +kernel
theorem dX5_blur_61 : decode cX5_blur 61 = .ok (.iaload, 1) := by decide +kernel
theorem dX5_blur_62 : decode cX5_blur 62 = .ok (.invokestatic 243, 3) := by decide +kernel
theorem dX5_blur_65 : decode cX5_blur 65 = .ok (.imul, 1) := by decide +kernel
theorem dX5_blur_66 : decode cX5_blur 66 = .ok (.istore 5, 2) := by decide +kernel
theorem dX5_blur_68 : decode cX5_blur 68 = .ok (.iconst 0, 1) := by decide +kernel
theorem dX5_blur_69 : decode cX5_blur 69 = .ok (.istore 6, 2) := by decide +kernel
theorem dX5_blur_71 : decode cX5_blur 71 = .ok (.iconst (-1), 1) := by decide +kernel
theorem dX5_blur_72 : decode cX5_blur 72 = .ok (.istore 7, 2) := by decide +kernel
theorem dX5_blur_74 : decode cX5_blur 74 = .ok (.iconst (-1), 1) := by decide +kernel
theorem dX5_blur_75 : decode cX5_blur 75 = .ok (.istore 8, 2) := by decide +kernel
theorem dX5_blur_77 : decode cX5_blur 77 = .ok (.iconst 0, 1) := by decide +kernel
theorem dX5_blur_78 : decode cX5_blur 78 = .ok (.istore 9, 2) := by decide +kernel
theorem dX5_blur_80 : decode cX5_blur 80 = .ok (.iload 9, 2) := by decide +kernel
theorem dX5_blur_82 : decode cX5_blur 82 = .ok (.bipush 40, 2) := by decide +kernel
theorem dX5_blur_84 : decode cX5_blur 84 = .ok (.if_icmp .gt 55, 3) := by decide +kernel
theorem dX5_blur_87 : decode cX5_blur 87 = .ok (.iload 9, 2) := by decide +kernel
theorem dX5_blur_89 : decode cX5_blur 89 = .ok (.iload 5, 2) := by decide +kernel
theorem dX5_blur_91 : decode cX5_blur 91 = .ok (.isub, 1) := by decide +kernel
theorem dX5_blur_92 : decode cX5_blur 92 = .ok (.iconst 0, 1) := by decide +kernel
theorem dX5_blur_93 : decode cX5_blur 93 = .ok (.invokestatic 246, 3) := by decide +kernel
theorem dX5_blur_96 : decode cX5_blur 96 = .ok (.aload_n 0, 1) := by decide +kernel
theorem dX5_blur_97 : decode cX5_blur 97 = .ok (.getfield 10, 3) := by decide +kernel
theorem dX5_blur_100 : decode cX5_blur 100 = .ok (.getfield 131, 3) := by decide +kernel
theorem dX5_blur_103 : decode cX5_blur 103 = .ok (.getfield 174, 3) := by decide +kernel
theorem dX5_blur_106 : decode cX5_blur 106 = .ok (.iload_n 1, 1) := by decide +kernel
theorem dX5_blur_107 : decode cX5_blur 107 = .ok (.iaload, 1) := by decide +kernel
theorem dX5_blur_108 : decode cX5_blur 108 = .ok (.if_icmp .ne 25, 3) := by decide +kernel
theorem dX5_blur_111 : decode cX5_blur 111 = .ok (.iinc 6 1, 3) := by decide +kernel
theorem dX5_blur_114 : decode cX5_blur 114 = .ok (.iload 7, 2) := by decide +kernel
theorem dX5_blur_116 : decode cX5_blur 116 = .ok (.iconst (-1), 1) := by decide +kernel
theorem dX5_blur_117 : decode cX5_blur 117 = .ok (.if_icmp .ne 8, 3) := by decide +kernel
theorem dX5_blur_120 : decode cX5_blur 120 = .ok (.iload 9, 2) := by decide +kernel
theorem dX5_blur_122 : decode cX5_blur 122 = .ok (.goto 5, 3) := by decide +kernel
theorem dX5_blur_125 : decode cX5_blur 125 = .ok (.iload 7, 2) := by decide +kernel
theorem dX5_blur_127 : decode cX5_blur 127 = .ok (.istore 7, 2) := by decide +kernel
theorem dX5_blur_129 : decode cX5_blur 129 = .ok (.iload 9, 2) := by decide +kernel
theorem dX5_blur_131 : decode cX5_blur 131 = .ok (.istore 8, 2) := by decide +kernel
theorem dX5_blur_133 : decode cX5_blur 133 = .ok (.iinc 9 1, 3) := by decide +kernel
theorem dX5_blur_136 : decode cX5_blur 136 = .ok (.goto (-56), 3) := by decide +kernel
theorem dX5_blur_139 : decode cX5_blur 139 = .ok (.iload 4, 2) := by decide +kernel
theorem dX5_blur_141 : decode cX5_blur 141 = .ok (.ifCond .ne 8, 3) := by decide +kernel
theorem dX5_blur_144 : decode cX5_blur 144 = .ok (.iload 6, 2) := by decide +kernel
theorem dX5_blur_146 : decode cX5_blur 146 = .ok (.goto 16, 3) := by decide +kernel
theorem dX5_blur_149 : decode cX5_blur 149 = .ok (.iload 4, 2) := by decide +kernel
theorem dX5_blur_151 : decode cX5_blur 151 = .ok (.iconst 1, 1) := by decide +kernel
theorem dX5_blur_152 : decode cX5_blur 152 = .ok (.if_icmp .ne 8, 3) := by decide +kernel
theorem dX5_blur_155 : decode cX5_blur 155 = .ok (.iload 7, 2) := by decide +kernel
theorem dX5_blur_157 : decode cX5_blur 157 = .ok (.goto 5, 3) := by decide +kernel
theorem dX5_blur_160 : decode cX5_blur 160 = .ok (.iload 8, 2) := by decide +kernel
theorem dX5_blur_162 : decode cX5_blur 162 = .ok (.ireturn, 1) := by decide +kernel
theorem dX5_where_0 : decode cX5_where 0 = .ok (.aload_n 0, 1) := by decide +kernel
theorem dX5_where_1 : decode cX5_where 1 = .ok (.iload_n 1, 1) := by decide +kernel
theorem dX5_where_2 : decode cX5_where 2 = .ok (.invokevirtual 122, 3) := by decide +kernel
theorem dX5_where_5 : decode cX5_where 5 = .ok (.ifCond .eq 20, 3) := by decide +kernel
theorem dX5_where_8 : decode cX5_where 8 = .ok (.iload_n 2, 1) := by decide +kernel
theorem dX5_where_9 : decode cX5_where 9 = .ok (.invokestatic 82, 3) := by decide +kernel
theorem dX5_where_12 : decode cX5_where 12 = .ok (.ifCond .eq 13, 3) := by decide +kernel
theorem dX5_where_15 : decode cX5_where 15 = .ok (.iload_n 3, 1) := by decide +kernel
theorem dX5_where_16 : decode cX5_where 16 = .ok (.iconst 0, 1) := by decide +kernel
theorem dX5_where_17 : decode cX5_where 17 = .ok (.bipush 60, 2) := by decide +kernel
theorem dX5_where_19 : decode cX5_where 19 = .ok (.invokestatic 85, 3) := by decide +kernel
theorem dX5_where_22 : decode cX5_where 22 = .ok (.ifCond .ne 10, 3) := by decide +kernel
theorem dX5_where_25 : decode cX5_where 25 = .ok (.aload_n 0, 1) := by decide +kernel
theorem dX5_where_26 : decode cX5_where 26 = .ok (.bipush (-2), 2) := by decide +kernel
theorem dX5_where_28 : decode cX5_where 28 = .ok (.invokevirtual 89, 3) := by decide +kernel
theorem dX5_where_31 : decode cX5_where 31 = .ok (.ireturn, 1) := by decide +kernel
theorem dX5_where_32 : decode cX5_where 32 = .ok (.iconst 0, 1) := by decide +kernel
theorem dX5_where_33 : decode cX5_where 33 = .ok (.istore 4, 2) := by decide +kernel
theorem dX5_where_35 : decode cX5_where 35 = .ok (.iconst 0, 1) := by decide +kernel
theorem dX5_where_36 : decode cX5_where 36 = .ok (.istore 5, 2) := by decide +kernel
theorem dX5_where_38 : decode cX5_where 38 = .ok (.iload 5, 2) := by decide +kernel
theorem dX5_where_40 : decode cX5_where 40 = .ok (.aload_n 0, 1) := by decide +kernel
theorem dX5_where_41 : decode cX5_where 41 = .ok (.getfield 10, 3) := by decide +kernel
theorem dX5_where_44 : decode cX5_where 44 = .ok (.getfield 93, 3) := by decide +kernel
theorem dX5_where_47 : decode cX5_where 47 = .ok (.if_icmp .ge 61, 3) := by decide +kernel
theorem dX5_where_50 : decode cX5_where 50 = .ok (.aload_n 0, 1) := by decide +kernel
theorem dX5_where_51 : decode cX5_where 51 = .ok (.getfield 10, 3) := by decide +kernel
theorem dX5_where_54 : decode cX5_where 54 = .ok (.getfield 171, 3) := by decide +kernel
theorem dX5_where_57 : decode cX5_where 57 = .ok (.iload 5, 2) := by decide +kernel
theorem dX5_where_59 : decode cX5_where 59 = .ok (.iaload, 1) := by decide +kernel
theorem dX5_where_60 : decode cX5_where 60 = .ok (.iload_n 2, 1) := by decide +kernel
theorem dX5_where_61 : decode cX5_where 61 = .ok (.if_icmp .ne 23, 3) := by decide +kernel
theorem dX5_where_64 : decode cX5_where 64 = .ok (.aload_n 0, 1) := by decide +kernel
theorem dX5_where_65 : decode cX5_where 65 = .ok (.getfield 10, 3) := by decide +kernel
theorem dX5_where_68 : decode cX5_where 68 = .ok (.aload_n 0, 1) := by decide +kernel
theorem dX5_where_69 : decode cX5_where 69 = .ok (.getfield 10, 3) := by decide +kernel
theorem dX5_where_72 : decode cX5_where 72 = .ok (.getfield 131, 3) := by decide +kernel
theorem dX5_where_75 : decode cX5_where 75 = .ok (.iload_n 1, 1) := by decide +kernel
theorem dX5_where_76 : decode cX5_where 76 = .ok (.iload 5, 2) := by decide +kernel
theorem dX5_where_78 : decode cX5_where 78 = .ok (.invokevirtual 195, 3) := by decide +kernel
theorem dX5_where_81 : decode cX5_where 81 = .ok (.goto 4, 3) := by decide +kernel
theorem dX5_where_84 : decode cX5_where 84 = .ok (.iconst 0, 1) := by decide +kernel
theorem dX5_where_85 : decode cX5_where 85 = .ok (.istore 6, 2) := by decide +kernel
theorem dX5_where_87 : decode cX5_where 87 = .ok (.iload 6, 2) := by decide +kernel
theorem dX5_where_89 : decode cX5_where 89 = .ok (.iload_n 3, 1) := by decide +kernel
theorem dX5_where_90 : decode cX5_where 90 = .ok (.if_icmp .ne 12, 3) := by decide +kernel
theorem dX5_where_93 : decode cX5_where 93 = .ok (.iload 4, 2) := by decide +kernel
theorem dX5_where_95 : decode cX5_where 95 = .ok (.iconst 1, 1) := by decide +kernel
theorem dX5_where_96 : decode cX5_where 96 = .ok (.iload 5, 2) := by decide +kernel
theorem dX5_where_98 : decode cX5_where 98 = .ok (.ishl, 1) := by decide +kernel
theorem dX5_where_99 : decode cX5_where 99 = .ok (.ior, 1) := by decide +kernel
theorem dX5_where_100 : decode cX5_where 100 = .ok (.istore 4, 2) := by decide +kernel
theorem dX5_where_102 : decode cX5_where 102 = .ok (.iinc 5 1, 3) := by decide +kernel
theorem dX5_where_105 : decode cX5_where 105 = .ok (.goto (-67), 3) := by decide +kernel
theorem dX5_where_108 : decode cX5_where 108 = .ok (.iload 4, 2) := by decide +kernel
theorem dX5_where_110 : decode cX5_where 110 = .ok (.ireturn, 1) := by decide +kernel
theorem dX5_note_0 : decode cX5_note 0 = .ok (.aload_n 0, 1) := by decide +kernel
theorem dX5_note_1 : decode cX5_note 1 = .ok (.iload_n 1, 1) := by decide +kernel
theorem dX5_note_2 : decode cX5_note 2 = .ok (.invokevirtual 165, 3) := by decide +kernel
theorem dX5_note_5 : decode cX5_note 5 = .ok (.ifCond .eq 45, 3) := by decide +kernel
theorem dX5_note_8 : decode cX5_note 8 = .ok (.iload_n 2, 1) := by decide +kernel
theorem dX5_note_9 : decode cX5_note 9 = .ok (.iconst 0, 1) := by decide +kernel
theorem dX5_note_10 : decode cX5_note 10 = .ok (.bipush 40, 2) := by decide +kernel
theorem dX5_note_12 : decode cX5_note 12 = .ok (.invokestatic 85, 3) := by decide +kernel
theorem dX5_note_15 : decode cX5_note 15 = .ok (.ifCond .eq 35, 3) := by decide +kernel
theorem dX5_note_18 : decode cX5_note 18 = .ok (.iload_n 3, 1) := by decide +kernel
theorem dX5_note_19 : decode cX5_note 19 = .ok (.iconst 0, 1) := by decide +kernel
theorem dX5_note_20 : decode cX5_note 20 = .ok (.bipush 99, 2) := by decide +kernel
theorem dX5_note_22 : decode cX5_note 22 = .ok (.invokestatic 85, 3) := by decide +kernel
theorem dX5_note_25 : decode cX5_note 25 = .ok (.ifCond .eq 25, 3) := by decide +kernel
theorem dX5_note_28 : decode cX5_note 28 = .ok (.iload 4, 2) := by decide +kernel
theorem dX5_note_30 : decode cX5_note 30 = .ok (.iconst 0, 1) := by decide +kernel
theorem dX5_note_31 : decode cX5_note 31 = .ok (.bipush 99, 2) := by decide +kernel
theorem dX5_note_33 : decode cX5_note 33 = .ok (.invokestatic 85, 3) := by decide +kernel
theorem dX5_note_36 : decode cX5_note 36 = .ok (.ifCond .eq 14, 3) := by decide +kernel
theorem dX5_note_39 : decode cX5_note 39 = .ok (.iload 5, 2) := by decide +kernel
theorem dX5_note_41 : decode cX5_note 41 = .ok (.iconst 0, 1) := by decide +kernel
theorem dX5_note_42 : decode cX5_note 42 = .ok (.bipush 40, 2) := by decide +kernel
theorem dX5_note_44 : decode cX5_note 44 = .ok (.invokestatic 85, 3) := by decide +kernel
theorem dX5_note_47 : decode cX5_note 47 = .ok (.ifCond .ne 10, 3) := by decide +kernel
theorem dX5_note_50 : decode cX5_note 50 = .ok (.aload_n 0, 1) := by decide +kernel
theorem dX5_note_51 : decode cX5_note 51 = .ok (.bipush (-2), 2) := by decide +kernel
theorem dX5_note_53 : decode cX5_note 53 = .ok (.invokevirtual 89, 3) := by decide +kernel
theorem dX5_note_56 : decode cX5_note 56 = .ok (.ireturn, 1) := by decide +kernel
theorem dX5_note_57 : decode cX5_note 57 = .ok (.aload_n 0, 1) := by decide +kernel
theorem dX5_note_58 : decode cX5_note 58 = .ok (.aload_n 0, 1) := by decide +kernel
theorem dX5_note_59 : decode cX5_note 59 = .ok (.getfield 10, 3) := by decide +kernel
theorem dX5_note_62 : decode cX5_note 62 = .ok (.getfield 251, 3) := by decide +kernel
theorem dX5_note_65 : decode cX5_note 65 = .ok (.iload_n 1, 1) := by decide +kernel
theorem dX5_note_66 : decode cX5_note 66 = .ok (.iload_n 2, 1) := by decide +kernel
theorem dX5_note_67 : decode cX5_note 67 = .ok (.iload_n 3, 1) := by decide +kernel
theorem dX5_note_68 : decode cX5_note 68 = .ok (.iload 4, 2) := by decide +kernel
theorem dX5_note_70 : decode cX5_note 70 = .ok (.iload 5, 2) := by decide +kernel
theorem dX5_note_72 : decode cX5_note 72 = .ok (.invokevirtual 225, 3) := by decide +kernel
theorem dX5_note_75 : decode cX5_note 75 = .ok (.ireturn, 1) := by decide +kernel
theorem dX5_mark_0 : decode cX5_mark 0 = .ok (.aload_n 0, 1) := by decide +kernel
theorem dX5_mark_1 : decode cX5_mark 1 = .ok (.iload_n 1, 1) := by decide +kernel
theorem dX5_mark_2 : decode cX5_mark 2 = .ok (.invokevirtual 122, 3) := by decide +kernel
theorem dX5_mark_5 : decode cX5_mark 5 = .ok (.ifCond .eq 34, 3) := by decide +kernel
theorem dX5_mark_8 : decode cX5_mark 8 = .ok (.iload_n 2, 1) := by decide +kernel
theorem dX5_mark_9 : decode cX5_mark 9 = .ok (.iconst 0, 1) := by decide +kernel
theorem dX5_mark_10 : decode cX5_mark 10 = .ok (.bipush 40, 2) := by decide +kernel
theorem dX5_mark_12 : decode cX5_mark 12 = .ok (.invokestatic 85, 3) := by decide +kernel
theorem dX5_mark_15 : decode cX5_mark 15 = .ok (.ifCond .eq 24, 3) := by decide +kernel
theorem dX5_mark_18 : decode cX5_mark 18 = .ok (.iload_n 3, 1) := by decide +kernel
theorem dX5_mark_19 : decode cX5_mark 19 = .ok (.iconst 0, 1) := by decide +kernel
theorem dX5_mark_20 : decode cX5_mark 20 = .ok (.bipush 99, 2) := by decide +kernel
theorem dX5_mark_22 : decode cX5_mark 22 = .ok (.invokestatic 85, 3) := by decide +kernel
theorem dX5_mark_25 : decode cX5_mark 25 = .ok (.ifCond .eq 14, 3) := by decide +kernel
theorem dX5_mark_28 : decode cX5_mark 28 = .ok (.iload 4, 2) := by decide +kernel
theorem dX5_mark_30 : decode cX5_mark 30 = .ok (.iconst 0, 1) := by decide +kernel
theorem dX5_mark_31 : decode cX5_mark 31 = .ok (.bipush 60, 2) := by decide +kernel
theorem dX5_mark_33 : decode cX5_mark 33 = .ok (.invokestatic 85, 3) := by decide +kernel
theorem dX5_mark_36 : decode cX5_mark 36 = .ok (.ifCond .ne 10, 3) := by decide +kernel
theorem dX5_mark_39 : decode cX5_mark 39 = .ok (.aload_n 0, 1) := by decide +kernel
theorem dX5_mark_40 : decode cX5_mark 40 = .ok (.bipush (-2), 2) := by decide +kernel
theorem dX5_mark_42 : decode cX5_mark 42 = .ok (.invokevirtual 89, 3) := by decide +kernel
theorem dX5_mark_45 : decode cX5_mark 45 = .ok (.ireturn, 1) := by decide +kernel
theorem dX5_mark_46 : decode cX5_mark 46 = .ok (.aload_n 0, 1) := by decide +kernel
theorem dX5_mark_47 : decode cX5_mark 47 = .ok (.aload_n 0, 1) := by decide +kernel
theorem dX5_mark_48 : decode cX5_mark 48 = .ok (.getfield 10, 3) := by decide +kernel
theorem dX5_mark_51 : decode cX5_mark 51 = .ok (.getfield 254, 3) := by decide +kernel
theorem dX5_mark_54 : decode cX5_mark 54 = .ok (.iload_n 1, 1) := by decide +kernel
theorem dX5_mark_55 : decode cX5_mark 55 = .ok (.iload_n 2, 1) := by decide +kernel
theorem dX5_mark_56 : decode cX5_mark 56 = .ok (.iload_n 3, 1) := by decide +kernel
theorem dX5_mark_57 : decode cX5_mark 57 = .ok (.iload 4, 2) := by decide +kernel
theorem dX5_mark_59 : decode cX5_mark 59 = .ok (.iconst 0, 1) := by decide +kernel
theorem dX5_mark_60 : decode cX5_mark 60 = .ok (.invokevirtual 225, 3) := by decide +kernel
theorem dX5_mark_63 : decode cX5_mark 63 = .ok (.ireturn, 1) := by decide +kernel
theorem dX5_forget_0 : decode cX5_forget 0 = .ok (.iload_n 1, 1) := by decide +kernel
theorem dX5_forget_1 : decode cX5_forget 1 = .ok (.iconst 0, 1) := by decide +kernel
theorem dX5_forget_2 : decode cX5_forget 2 = .ok (.iconst 2, 1) := by decide +kernel
theorem dX5_forget_3 : decode cX5_forget 3 = .ok (.invokestatic 85, 3) := by decide +kernel
theorem dX5_forget_6 : decode cX5_forget 6 = .ok (.ifCond .ne 10, 3) := by decide +kernel
theorem dX5_forget_9 : decode cX5_forget 9 = .ok (.aload_n 0, 1) := by decide +kernel
theorem dX5_forget_10 : decode cX5_forget 10 = .ok (.bipush (-2), 2) := by decide +kernel
theorem dX5_forget_12 : decode cX5_forget 12 = .ok (.invokevirtual 89, 3) := by decide +kernel
theorem dX5_forget_15 : decode cX5_forget 15 = .ok (.ireturn, 1) := by decide +kernel
theorem dX5_forget_16 : decode cX5_forget 16 = .ok (.iload_n 1, 1) := by decide +kernel
theorem dX5_forget_17 : decode cX5_forget 17 = .ok (.ifCond .ne 13, 3) := by decide +kernel
theorem dX5_forget_20 : decode cX5_forget 20 = .ok (.aload_n 0, 1) := by decide +kernel
theorem dX5_forget_21 : decode cX5_forget 21 = .ok (.getfield 10, 3) := by decide +kernel
theorem dX5_forget_24 : decode cX5_forget 24 = .ok (.getfield 221, 3) := by decide +kernel
theorem dX5_forget_27 : decode cX5_forget 27 = .ok (.goto 25, 3) := by decide +kernel
theorem dX5_forget_30 : decode cX5_forget 30 = .ok (.iload_n 1, 1) := by decide +kernel
theorem dX5_forget_31 : decode cX5_forget 31 = .ok (.iconst 1, 1) := by decide +kernel
theorem dX5_forget_32 : decode cX5_forget 32 = .ok (.if_icmp .ne 13, 3) := by decide +kernel
theorem dX5_forget_35 : decode cX5_forget 35 = .ok (.aload_n 0, 1) := by decide +kernel
theorem dX5_forget_36 : decode cX5_forget 36 = .ok (.getfield 10, 3) := by decide +kernel
theorem dX5_forget_39 : decode cX5_forget 39 = .ok (.getfield 251, 3) := by decide +kernel
theorem dX5_forget_42 : decode cX5_forget 42 = .ok (.goto 10, 3) := by decide +kernel
theorem dX5_forget_45 : decode cX5_forget 45 = .ok (.aload_n 0, 1) := by decide +kernel
theorem dX5_forget_46 : decode cX5_forget 46 = .ok (.getfield 10, 3) := by decide +kernel
theorem dX5_forget_49 : decode cX5_forget 49 = .ok (.getfield 254, 3) := by decide +kernel
theorem dX5_forget_52 : decode cX5_forget 52 = .ok (.astore_n 2, 1) := by decide +kernel
theorem dX5_forget_53 : decode cX5_forget 53 = .ok (.aload_n 2, 1) := by decide +kernel
theorem dX5_forget_54 : decode cX5_forget 54 = .ok (.getfield 257, 3) := by decide +kernel
theorem dX5_forget_57 : decode cX5_forget 57 = .ok (.istore_n 3, 1) := by decide +kernel
theorem dX5_forget_58 : decode cX5_forget 58 = .ok (.aload_n 2, 1) := by decide +kernel
theorem dX5_forget_59 : decode cX5_forget 59 = .ok (.iconst 0, 1) := by decide +kernel
theorem dX5_forget_60 : decode cX5_forget 60 = .ok (.putfield 257, 3) := by decide +kernel
theorem dX5_forget_63 : decode cX5_forget 63 = .ok (.iload_n 3, 1) := by decide +kernel
theorem dX5_forget_64 : decode cX5_forget 64 = .ok (.ireturn, 1) := by decide +kernel
theorem dX5_is_0 : decode cX5_is 0 = .ok (.aload_n 0, 1) := by decide +kernel
theorem dX5_is_1 : decode cX5_is 1 = .ok (.iload_n 1, 1) := by decide +kernel
theorem dX5_is_2 : decode cX5_is 2 = .ok (.invokevirtual 165, 3) := by decide +kernel
theorem dX5_is_5 : decode cX5_is 5 = .ok (.ifCond .eq 11, 3) := by decide +kernel
theorem dX5_is_8 : decode cX5_is 8 = .ok (.aload_n 0, 1) := by decide +kernel
theorem dX5_is_9 : decode cX5_is 9 = .ok (.iload_n 1, 1) := by decide +kernel
theorem dX5_is_10 : decode cX5_is 10 = .ok (.invokevirtual 262, 3) := by decide +kernel
theorem dX5_is_13 : decode cX5_is 13 = .ok (.goto 9, 3) := by decide +kernel
theorem dX5_is_16 : decode cX5_is 16 = .ok (.aload_n 0, 1) := by decide +kernel
theorem dX5_is_17 : decode cX5_is 17 = .ok (.bipush (-2), 2) := by decide +kernel
theorem dX5_is_19 : decode cX5_is 19 = .ok (.invokevirtual 89, 3) := by decide +kernel
theorem dX5_is_22 : decode cX5_is 22 = .ok (.ireturn, 1) := by decide +kernel
theorem dX5_look_0 : decode cX5_look 0 = .ok (.aload_n 0, 1) := by decide +kernel
theorem dX5_look_1 : decode cX5_look 1 = .ok (.iload_n 1, 1) := by decide +kernel
theorem dX5_look_2 : decode cX5_look 2 = .ok (.invokevirtual 165, 3) := by decide +kernel
theorem dX5_look_5 : decode cX5_look 5 = .ok (.ifCond .ne 10, 3) := by decide +kernel
theorem dX5_look_8 : decode cX5_look 8 = .ok (.aload_n 0, 1) := by decide +kernel
theorem dX5_look_9 : decode cX5_look 9 = .ok (.bipush (-2), 2) := by decide +kernel
theorem dX5_look_11 : decode cX5_look 11 = .ok (.invokevirtual 89, 3) := by decide +kernel
theorem dX5_look_14 : decode cX5_look 14 = .ok (.ireturn, 1) := by decide +kernel
theorem dX5_look_15 : decode cX5_look 15 = .ok (.aload_n 0, 1) := by decide +kernel
theorem dX5_look_16 : decode cX5_look 16 = .ok (.iload_n 1, 1) := by decide +kernel
theorem dX5_look_17 : decode cX5_look 17 = .ok (.invokevirtual 262, 3) := by decide +kernel
theorem dX5_look_20 : decode cX5_look 20 = .ok (.istore_n 2, 1) := by decide +kernel
theorem dX5_look_21 : decode cX5_look 21 = .ok (.iconst (-1), 1) := by decide +kernel
theorem dX5_look_22 : decode cX5_look 22 = .ok (.istore_n 3, 1) := by decide +kernel
theorem dX5_look_23 : decode cX5_look 23 = .ok (.bipush 7, 2) := by decide +kernel
theorem dX5_look_25 : decode cX5_look 25 = .ok (.istore 4, 2) := by decide +kernel
theorem dX5_look_27 : decode cX5_look 27 = .ok (.iconst 0, 1) := by decide +kernel
theorem dX5_look_28 : decode cX5_look 28 = .ok (.istore 5, 2) := by decide +kernel
theorem dX5_look_30 : decode cX5_look 30 = .ok (.iload 5, 2) := by decide +kernel
theorem dX5_look_32 : decode cX5_look 32 = .ok (.bipush 20, 2) := by decide +kernel
theorem dX5_look_34 : decode cX5_look 34 = .ok (.if_icmp .gt 99, 3) := by decide +kernel
theorem dX5_look_37 : decode cX5_look 37 = .ok (.iload_n 2, 1) := by decide +kernel
theorem dX5_look_38 : decode cX5_look 38 = .ok (.ifCond .eq 95, 3) := by decide +kernel
theorem dX5_look_41 : decode cX5_look 41 = .ok (.iconst 0, 1) := by decide +kernel
theorem dX5_look_42 : decode cX5_look 42 = .ok (.istore 6, 2) := by decide +kernel
theorem dX5_look_44 : decode cX5_look 44 = .ok (.iload 6, 2) := by decide +kernel
theorem dX5_look_46 : decode cX5_look 46 = .ok (.iconst 1, 1) := by decide +kernel
theorem dX5_look_47 : decode cX5_look 47 = .ok (.if_icmp .gt 80, 3) := by decide +kernel
theorem dX5_look_50 : decode cX5_look 50 = .ok (.iconst 0, 1) := by decide +kernel
theorem dX5_look_51 : decode cX5_look 51 = .ok (.istore 7, 2) := by decide +kernel
theorem dX5_look_53 : decode cX5_look 53 = .ok (.iload 7, 2) := by decide +kernel
theorem dX5_look_55 : decode cX5_look 55 = .ok (.bipush 6, 2) := by decide +kernel
theorem dX5_look_57 : decode cX5_look 57 = .ok (.if_icmp .ge 37, 3) := by decide +kernel
theorem dX5_look_60 : decode cX5_look 60 = .ok (.aload_n 0, 1) := by decide +kernel
theorem dX5_look_61 : decode cX5_look 61 = .ok (.getfield 52, 3) := by decide +kernel
theorem dX5_look_64 : decode cX5_look 64 = .ok (.iload 7, 2) := by decide +kernel
theorem dX5_look_66 : decode cX5_look 66 = .ok (.iload 7, 2) := by decide +kernel
theorem dX5_look_68 : decode cX5_look 68 = .ok (.aload_n 0, 1) := by decide +kernel
theorem dX5_look_69 : decode cX5_look 69 = .ok (.getfield 10, 3) := by decide +kernel
theorem dX5_look_72 : decode cX5_look 72 = .ok (.getfield 131, 3) := by decide +kernel
theorem dX5_look_75 : decode cX5_look 75 = .ok (.getfield 174, 3) := by decide +kernel
theorem dX5_look_78 : decode cX5_look 78 = .ok (.iload_n 1, 1) := by decide +kernel
theorem dX5_look_79 : decode cX5_look 79 = .ok (.iaload, 1) := by decide +kernel
theorem dX5_look_80 : decode cX5_look 80 = .ok (.iload 6, 2) := by decide +kernel
theorem dX5_look_82 : decode cX5_look 82 = .ok (.iload 5, 2) := by decide +kernel
theorem dX5_look_84 : decode cX5_look 84 = .ok (.invokestatic 218, 3) := by decide +kernel
theorem dX5_look_87 : decode cX5_look 87 = .ok (.iastore, 1) := by decide +kernel
theorem dX5_look_88 : decode cX5_look 88 = .ok (.iinc 7 1, 3) := by decide +kernel
theorem dX5_look_91 : decode cX5_look 91 = .ok (.goto (-38), 3) := by decide +kernel
theorem dX5_look_94 : decode cX5_look 94 = .ok (.aload_n 0, 1) := by decide +kernel
theorem dX5_look_95 : decode cX5_look 95 = .ok (.iload_n 2, 1) := by decide +kernel
theorem dX5_look_96 : decode cX5_look 96 = .ok (.invokevirtual 265, 3) := by decide +kernel
theorem dX5_look_99 : decode cX5_look 99 = .ok (.istore 7, 2) := by decide +kernel
theorem dX5_look_101 : decode cX5_look 101 = .ok (.iload 7, 2) := by decide +kernel
theorem dX5_look_103 : decode cX5_look 103 = .ok (.iload 4, 2) := by decide +kernel
theorem dX5_look_105 : decode cX5_look 105 = .ok (.if_icmp .ge 16, 3) := by decide +kernel
theorem dX5_look_108 : decode cX5_look 108 = .ok (.iload 7, 2) := by decide +kernel
theorem dX5_look_110 : decode cX5_look 110 = .ok (.istore 4, 2) := by decide +kernel
theorem dX5_look_112 : decode cX5_look 112 = .ok (.bipush 100, 2) := by decide +kernel
theorem dX5_look_114 : decode cX5_look 114 = .ok (.iload 5, 2) := by decide +kernel
theorem dX5_look_116 : decode cX5_look 116 = .ok (.imul, 1) := by decide +kernel
theorem dX5_look_117 : decode cX5_look 117 = .ok (.iload 6, 2) := by decide +kernel
theorem dX5_look_119 : decode cX5_look 119 = .ok (.iadd, 1) := by decide +kernel
theorem dX5_look_120 : decode cX5_look 120 = .ok (.istore_n 3, 1) := by decide +kernel
theorem dX5_look_121 : decode cX5_look 121 = .ok (.iinc 6 1, 3) := by decide +kernel
theorem dX5_look_124 : decode cX5_look 124 = .ok (.goto (-80), 3) := by decide +kernel
theorem dX5_look_127 : decode cX5_look 127 = .ok (.iinc 5 1, 3) := by decide +kernel
theorem dX5_look_130 : decode cX5_look 130 = .ok (.goto (-100), 3) := by decide +kernel
theorem dX5_look_133 : decode cX5_look 133 = .ok (.iload_n 3, 1) := by decide +kernel
theorem dX5_look_134 : decode cX5_look 134 = .ok (.ireturn, 1) := by decide +kernel
theorem dX5_what_0 : decode cX5_what 0 = .ok (.aload_n 0, 1) := by decide +kernel
theorem dX5_what_1 : decode cX5_what 1 = .ok (.iload_n 1, 1) := by decide +kernel
theorem dX5_what_2 : decode cX5_what 2 = .ok (.invokevirtual 122, 3) := by decide +kernel
theorem dX5_what_5 : decode cX5_what 5 = .ok (.ifCond .eq 11, 3) := by decide +kernel
theorem dX5_what_8 : decode cX5_what 8 = .ok (.aload_n 0, 1) := by decide +kernel
theorem dX5_what_9 : decode cX5_what 9 = .ok (.iload_n 1, 1) := by decide +kernel
theorem dX5_what_10 : decode cX5_what 10 = .ok (.invokevirtual 268, 3) := by decide +kernel
theorem dX5_what_13 : decode cX5_what 13 = .ok (.goto 9, 3) := by decide +kernel
theorem dX5_what_16 : decode cX5_what 16 = .ok (.aload_n 0, 1) := by decide +kernel
theorem dX5_what_17 : decode cX5_what 17 = .ok (.bipush (-2), 2) := by decide +kernel
theorem dX5_what_19 : decode cX5_what 19 = .ok (.invokevirtual 89, 3) := by decide +kernel
theorem dX5_what_22 : decode cX5_what 22 = .ok (.ireturn, 1) := by decide +kernel
theorem dX5_tries_0 : decode cX5_tries 0 = .ok (.aload_n 0, 1) := by decide +kernel
theorem dX5_tries_1 : decode cX5_tries 1 = .ok (.iload_n 1, 1) := by decide +kernel
theorem dX5_tries_2 : decode cX5_tries 2 = .ok (.invokevirtual 122, 3) := by decide +kernel
theorem dX5_tries_5 : decode cX5_tries 5 = .ok (.ifCond .ne 10, 3) := by decide +kernel
theorem dX5_tries_8 : decode cX5_tries 8 = .ok (.aload_n 0, 1) := by decide +kernel
theorem dX5_tries_9 : decode cX5_tries 9 = .ok (.bipush (-2), 2) := by decide +kernel
theorem dX5_tries_11 : decode cX5_tries 11 = .ok (.invokevirtual 89, 3) := by decide +kernel
theorem dX5_tries_14 : decode cX5_tries 14 = .ok (.ireturn, 1) := by decide +kernel
theorem dX5_tries_15 : decode cX5_tries 15 = .ok (.aload_n 0, 1) := by decide +kernel
theorem dX5_tries_16 : decode cX5_tries 16 = .ok (.iload_n 1, 1) := by decide +kernel
theorem dX5_tries_17 : decode cX5_tries 17 = .ok (.invokevirtual 268, 3) := by decide +kernel
theorem dX5_tries_20 : decode cX5_tries 20 = .ok (.istore_n 2, 1) := by decide +kernel
theorem dX5_tries_21 : decode cX5_tries 21 = .ok (.iconst (-1), 1) := by decide +kernel
theorem dX5_tries_22 : decode cX5_tries 22 = .ok (.istore_n 3, 1) := by decide +kernel
theorem dX5_tries_23 : decode cX5_tries 23 = .ok (.bipush 7, 2) := by decide +kernel
theorem dX5_tries_25 : decode cX5_tries 25 = .ok (.istore 4, 2) := by decide +kernel
theorem dX5_tries_27 : decode cX5_tries 27 = .ok (.iconst 0, 1) := by decide +kernel
theorem dX5_tries_28 : decode cX5_tries 28 = .ok (.istore 5, 2) := by decide +kernel
theorem dX5_tries_30 : decode cX5_tries 30 = .ok (.iload 5, 2) := by decide +kernel
theorem dX5_tries_32 : decode cX5_tries 32 = .ok (.bipush 9, 2) := by decide +kernel
theorem dX5_tries_34 : decode cX5_tries 34 = .ok (.if_icmp .gt 88, 3) := by decide +kernel
theorem dX5_tries_37 : decode cX5_tries 37 = .ok (.iload_n 2, 1) := by decide +kernel
theorem dX5_tries_38 : decode cX5_tries 38 = .ok (.ifCond .eq 84, 3) := by decide +kernel
theorem dX5_tries_41 : decode cX5_tries 41 = .ok (.iconst 0, 1) := by decide +kernel
theorem dX5_tries_42 : decode cX5_tries 42 = .ok (.istore 6, 2) := by decide +kernel
theorem dX5_tries_44 : decode cX5_tries 44 = .ok (.iload 6, 2) := by decide +kernel
theorem dX5_tries_46 : decode cX5_tries 46 = .ok (.bipush 20, 2) := by decide +kernel
theorem dX5_tries_48 : decode cX5_tries 48 = .ok (.if_icmp .gt 68, 3) := by decide +kernel
theorem dX5_tries_51 : decode cX5_tries 51 = .ok (.iconst 0, 1) := by decide +kernel
theorem dX5_tries_52 : decode cX5_tries 52 = .ok (.istore 7, 2) := by decide +kernel
theorem dX5_tries_54 : decode cX5_tries 54 = .ok (.iload 7, 2) := by decide +kernel
theorem dX5_tries_56 : decode cX5_tries 56 = .ok (.bipush 6, 2) := by decide +kernel
theorem dX5_tries_58 : decode cX5_tries 58 = .ok (.if_icmp .ge 25, 3) := by decide +kernel
theorem dX5_tries_61 : decode cX5_tries 61 = .ok (.aload_n 0, 1) := by decide +kernel
theorem dX5_tries_62 : decode cX5_tries 62 = .ok (.getfield 52, 3) := by decide +kernel
theorem dX5_tries_65 : decode cX5_tries 65 = .ok (.iload 7, 2) := by decide +kernel
theorem dX5_tries_67 : decode cX5_tries 67 = .ok (.iload 7, 2) := by decide +kernel
theorem dX5_tries_69 : decode cX5_tries 69 = .ok (.iload 5, 2) := by decide +kernel
theorem dX5_tries_71 : decode cX5_tries 71 = .ok (.iload 6, 2) := by decide +kernel
theorem dX5_tries_73 : decode cX5_tries 73 = .ok (.invokestatic 271, 3) := by decide +kernel
theorem dX5_tries_76 : decode cX5_tries 76 = .ok (.iastore, 1) := by decide +kernel
theorem dX5_tries_77 : decode cX5_tries 77 = .ok (.iinc 7 1, 3) := by decide +kernel
theorem dX5_tries_80 : decode cX5_tries 80 = .ok (.goto (-26), 3) := by decide +kernel
theorem dX5_tries_83 : decode cX5_tries 83 = .ok (.aload_n 0, 1) := by decide +kernel
theorem dX5_tries_84 : decode cX5_tries 84 = .ok (.iload_n 2, 1) := by decide +kernel
theorem dX5_tries_85 : decode cX5_tries 85 = .ok (.invokevirtual 265, 3) := by decide +kernel
theorem dX5_tries_88 : decode cX5_tries 88 = .ok (.istore 7, 2) := by decide +kernel
theorem dX5_tries_90 : decode cX5_tries 90 = .ok (.iload 7, 2) := by decide +kernel
theorem dX5_tries_92 : decode cX5_tries 92 = .ok (.iload 4, 2) := by decide +kernel
theorem dX5_tries_94 : decode cX5_tries 94 = .ok (.if_icmp .ge 16, 3) := by decide +kernel
theorem dX5_tries_97 : decode cX5_tries 97 = .ok (.iload 7, 2) := by decide +kernel
theorem dX5_tries_99 : decode cX5_tries 99 = .ok (.istore 4, 2) := by decide +kernel
theorem dX5_tries_101 : decode cX5_tries 101 = .ok (.bipush 100, 2) := by decide +kernel
theorem dX5_tries_103 : decode cX5_tries 103 = .ok (.iload 5, 2) := by decide +kernel
theorem dX5_tries_105 : decode cX5_tries 105 = .ok (.imul, 1) := by decide +kernel
theorem dX5_tries_106 : decode cX5_tries 106 = .ok (.iload 6, 2) := by decide +kernel
theorem dX5_tries_108 : decode cX5_tries 108 = .ok (.iadd, 1) := by decide +kernel
theorem dX5_tries_109 : decode cX5_tries 109 = .ok (.istore_n 3, 1) := by decide +kernel
theorem dX5_tries_110 : decode cX5_tries 110 = .ok (.iinc 6 1, 3) := by decide +kernel
theorem dX5_tries_113 : decode cX5_tries 113 = .ok (.goto (-69), 3) := by decide +kernel
theorem dX5_tries_116 : decode cX5_tries 116 = .ok (.iinc 5 1, 3) := by decide +kernel
theorem dX5_tries_119 : decode cX5_tries 119 = .ok (.goto (-89), 3) := by decide +kernel
theorem dX5_tries_122 : decode cX5_tries 122 = .ok (.iload_n 3, 1) := by decide +kernel
theorem dX5_tries_123 : decode cX5_tries 123 = .ok (.ireturn, 1) := by decide +kernel
theorem dX5_two_0 : decode cX5_two 0 = .ok (.aload_n 0, 1) := by decide +kernel
theorem dX5_two_1 : decode cX5_two 1 = .ok (.iload_n 1, 1) := by decide +kernel
theorem dX5_two_2 : decode cX5_two 2 = .ok (.invokevirtual 122, 3) := by decide +kernel
theorem dX5_two_5 : decode cX5_two 5 = .ok (.ifCond .eq 21, 3) := by decide +kernel
theorem dX5_two_8 : decode cX5_two 8 = .ok (.aload_n 0, 1) := by decide +kernel
theorem dX5_two_9 : decode cX5_two 9 = .ok (.iload_n 2, 1) := by decide +kernel
theorem dX5_two_10 : decode cX5_two 10 = .ok (.invokevirtual 122, 3) := by decide +kernel
theorem dX5_two_13 : decode cX5_two 13 = .ok (.ifCond .eq 13, 3) := by decide +kernel
theorem dX5_two_16 : decode cX5_two 16 = .ok (.iload_n 1, 1) := by decide +kernel
theorem dX5_two_17 : decode cX5_two 17 = .ok (.iload_n 2, 1) := by decide +kernel
theorem dX5_two_18 : decode cX5_two 18 = .ok (.if_icmp .eq 8, 3) := by decide +kernel
theorem dX5_two_21 : decode cX5_two 21 = .ok (.iload_n 3, 1) := by decide +kernel
theorem dX5_two_22 : decode cX5_two 22 = .ok (.iconst (-1), 1) := by decide +kernel
theorem dX5_two_23 : decode cX5_two 23 = .ok (.if_icmp .ge 10, 3) := by decide +kernel
theorem dX5_two_26 : decode cX5_two 26 = .ok (.aload_n 0, 1) := by decide +kernel
theorem dX5_two_27 : decode cX5_two 27 = .ok (.bipush (-10), 2) := by decide +kernel
theorem dX5_two_29 : decode cX5_two 29 = .ok (.invokevirtual 128, 3) := by decide +kernel
theorem dX5_two_32 : decode cX5_two 32 = .ok (.ireturn, 1) := by decide +kernel
theorem dX5_two_33 : decode cX5_two 33 = .ok (.iconst 0, 1) := by decide +kernel
theorem dX5_two_34 : decode cX5_two 34 = .ok (.istore 4, 2) := by decide +kernel
theorem dX5_two_36 : decode cX5_two 36 = .ok (.iload 4, 2) := by decide +kernel
theorem dX5_two_38 : decode cX5_two 38 = .ok (.aload_n 0, 1) := by decide +kernel
theorem dX5_two_39 : decode cX5_two 39 = .ok (.getfield 10, 3) := by decide +kernel
theorem dX5_two_42 : decode cX5_two 42 = .ok (.getfield 93, 3) := by decide +kernel
theorem dX5_two_45 : decode cX5_two 45 = .ok (.if_icmp .ge 57, 3) := by decide +kernel
theorem dX5_two_48 : decode cX5_two 48 = .ok (.aload_n 0, 1) := by decide +kernel
theorem dX5_two_49 : decode cX5_two 49 = .ok (.getfield 55, 3) := by decide +kernel
theorem dX5_two_52 : decode cX5_two 52 = .ok (.iload 4, 2) := by decide +kernel
theorem dX5_two_54 : decode cX5_two 54 = .ok (.aload_n 0, 1) := by decide +kernel
theorem dX5_two_55 : decode cX5_two 55 = .ok (.getfield 10, 3) := by decide +kernel
theorem dX5_two_58 : decode cX5_two 58 = .ok (.aload_n 0, 1) := by decide +kernel
theorem dX5_two_59 : decode cX5_two 59 = .ok (.getfield 10, 3) := by decide +kernel
theorem dX5_two_62 : decode cX5_two 62 = .ok (.getfield 131, 3) := by decide +kernel
theorem dX5_two_65 : decode cX5_two 65 = .ok (.iload_n 1, 1) := by decide +kernel
theorem dX5_two_66 : decode cX5_two 66 = .ok (.iload 4, 2) := by decide +kernel
theorem dX5_two_68 : decode cX5_two 68 = .ok (.invokevirtual 195, 3) := by decide +kernel
theorem dX5_two_71 : decode cX5_two 71 = .ok (.iastore, 1) := by decide +kernel
theorem dX5_two_72 : decode cX5_two 72 = .ok (.aload_n 0, 1) := by decide +kernel
theorem dX5_two_73 : decode cX5_two 73 = .ok (.getfield 58, 3) := by decide +kernel
theorem dX5_two_76 : decode cX5_two 76 = .ok (.iload 4, 2) := by decide +kernel
theorem dX5_two_78 : decode cX5_two 78 = .ok (.aload_n 0, 1) := by decide +kernel
theorem dX5_two_79 : decode cX5_two 79 = .ok (.getfield 10, 3) := by decide +kernel
theorem dX5_two_82 : decode cX5_two 82 = .ok (.aload_n 0, 1) := by decide +kernel
theorem dX5_two_83 : decode cX5_two 83 = .ok (.getfield 10, 3) := by decide +kernel
theorem dX5_two_86 : decode cX5_two 86 = .ok (.getfield 131, 3) := by decide +kernel
theorem dX5_two_89 : decode cX5_two 89 = .ok (.iload_n 2, 1) := by decide +kernel
theorem dX5_two_90 : decode cX5_two 90 = .ok (.iload 4, 2) := by decide +kernel
theorem dX5_two_92 : decode cX5_two 92 = .ok (.invokevirtual 195, 3) := by decide +kernel
theorem dX5_two_95 : decode cX5_two 95 = .ok (.iastore, 1) := by decide +kernel
theorem dX5_two_96 : decode cX5_two 96 = .ok (.iinc 4 1, 3) := by decide +kernel
theorem dX5_two_99 : decode cX5_two 99 = .ok (.goto (-63), 3) := by decide +kernel
theorem dX5_two_102 : decode cX5_two 102 = .ok (.iconst 0, 1) := by decide +kernel
theorem dX5_two_103 : decode cX5_two 103 = .ok (.istore 4, 2) := by decide +kernel
theorem dX5_two_105 : decode cX5_two 105 = .ok (.iconst 0, 1) := by decide +kernel
theorem dX5_two_106 : decode cX5_two 106 = .ok (.istore 5, 2) := by decide +kernel
theorem dX5_two_108 : decode cX5_two 108 = .ok (.iload 5, 2) := by decide +kernel
theorem dX5_two_110 : decode cX5_two 110 = .ok (.aload_n 0, 1) := by decide +kernel
theorem dX5_two_111 : decode cX5_two 111 = .ok (.getfield 10, 3) := by decide +kernel
theorem dX5_two_114 : decode cX5_two 114 = .ok (.getfield 93, 3) := by decide +kernel
theorem dX5_two_117 : decode cX5_two 117 = .ok (.if_icmp .ge 78, 3) := by decide +kernel
theorem dX5_two_120 : decode cX5_two 120 = .ok (.iconst 0, 1) := by decide +kernel
theorem dX5_two_121 : decode cX5_two 121 = .ok (.istore 6, 2) := by decide +kernel
theorem dX5_two_123 : decode cX5_two 123 = .ok (.iload 6, 2) := by decide +kernel
theorem dX5_two_125 : decode cX5_two 125 = .ok (.aload_n 0, 1) := by decide +kernel
theorem dX5_two_126 : decode cX5_two 126 = .ok (.getfield 10, 3) := by decide +kernel
theorem dX5_two_129 : decode cX5_two 129 = .ok (.getfield 93, 3) := by decide +kernel
theorem dX5_two_132 : decode cX5_two 132 = .ok (.if_icmp .ge 57, 3) := by decide +kernel
theorem dX5_two_135 : decode cX5_two 135 = .ok (.aload_n 0, 1) := by decide +kernel
theorem dX5_two_136 : decode cX5_two 136 = .ok (.aload_n 0, 1) := by decide +kernel
theorem dX5_two_137 : decode cX5_two 137 = .ok (.getfield 55, 3) := by decide +kernel
theorem dX5_two_140 : decode cX5_two 140 = .ok (.iload 5, 2) := by decide +kernel
theorem dX5_two_142 : decode cX5_two 142 = .ok (.iload 6, 2) := by decide +kernel
theorem dX5_two_144 : decode cX5_two 144 = .ok (.invokevirtual 274, 3) := by decide +kernel
theorem dX5_two_147 : decode cX5_two 147 = .ok (.ifCond .eq 36, 3) := by decide +kernel
theorem dX5_two_150 : decode cX5_two 150 = .ok (.aload_n 0, 1) := by decide +kernel
theorem dX5_two_151 : decode cX5_two 151 = .ok (.aload_n 0, 1) := by decide +kernel
theorem dX5_two_152 : decode cX5_two 152 = .ok (.getfield 58, 3) := by decide +kernel
theorem dX5_two_155 : decode cX5_two 155 = .ok (.iload 6, 2) := by decide +kernel
theorem dX5_two_157 : decode cX5_two 157 = .ok (.iload 5, 2) := by decide +kernel
theorem dX5_two_159 : decode cX5_two 159 = .ok (.invokevirtual 274, 3) := by decide +kernel
theorem dX5_two_162 : decode cX5_two 162 = .ok (.ifCond .eq 21, 3) := by decide +kernel
theorem dX5_two_165 : decode cX5_two 165 = .ok (.iload 4, 2) := by decide +kernel
theorem dX5_two_167 : decode cX5_two 167 = .ok (.iload_n 3, 1) := by decide +kernel
theorem dX5_two_168 : decode cX5_two 168 = .ok (.if_icmp .ne 12, 3) := by decide +kernel
theorem dX5_two_171 : decode cX5_two 171 = .ok (.bipush 7, 2) := by decide +kernel
theorem dX5_two_173 : decode cX5_two 173 = .ok (.iload 5, 2) := by decide +kernel
theorem dX5_two_175 : decode cX5_two 175 = .ok (.imul, 1) := by decide +kernel
theorem dX5_two_176 : decode cX5_two 176 = .ok (.iload 6, 2) := by decide +kernel
theorem dX5_two_178 : decode cX5_two 178 = .ok (.iadd, 1) := by decide +kernel
theorem dX5_two_179 : decode cX5_two 179 = .ok (.ireturn, 1) := by decide +kernel
theorem dX5_two_180 : decode cX5_two 180 = .ok (.iinc 4 1, 3) := by decide +kernel
theorem dX5_two_183 : decode cX5_two 183 = .ok (.iinc 6 1, 3) := by decide +kernel
theorem dX5_two_186 : decode cX5_two 186 = .ok (.goto (-63), 3) := by decide +kernel
theorem dX5_two_189 : decode cX5_two 189 = .ok (.iinc 5 1, 3) := by decide +kernel
theorem dX5_two_192 : decode cX5_two 192 = .ok (.goto (-84), 3) := by decide +kernel
theorem dX5_two_195 : decode cX5_two 195 = .ok (.iload_n 3, 1) := by decide +kernel
theorem dX5_two_196 : decode cX5_two 196 = .ok (.iconst (-1), 1) := by decide +kernel
theorem dX5_two_197 : decode cX5_two 197 = .ok (.if_icmp .ne 8, 3) := by decide +kernel
theorem dX5_two_200 : decode cX5_two 200 = .ok (.iload 4, 2) := by decide +kernel
theorem dX5_two_202 : decode cX5_two 202 = .ok (.goto 5, 3) := by decide +kernel
theorem dX5_two_205 : decode cX5_two 205 = .ok (.bipush (-5), 2) := by decide +kernel
theorem dX5_two_207 : decode cX5_two 207 = .ok (.ireturn, 1) := by decide +kernel
theorem dX5_left_0 : decode cX5_left 0 = .ok (.iload_n 1, 1) := by decide +kernel
theorem dX5_left_1 : decode cX5_left 1 = .ok (.iconst 0, 1) := by decide +kernel
theorem dX5_left_2 : decode cX5_left 2 = .ok (.iconst 5, 1) := by decide +kernel
theorem dX5_left_3 : decode cX5_left 3 = .ok (.invokestatic 85, 3) := by decide +kernel
theorem dX5_left_6 : decode cX5_left 6 = .ok (.ifCond .eq 22, 3) := by decide +kernel
theorem dX5_left_9 : decode cX5_left 9 = .ok (.iload_n 2, 1) := by decide +kernel
theorem dX5_left_10 : decode cX5_left 10 = .ok (.iconst 0, 1) := by decide +kernel
theorem dX5_left_11 : decode cX5_left 11 = .ok (.iconst 3, 1) := by decide +kernel
theorem dX5_left_12 : decode cX5_left 12 = .ok (.invokestatic 85, 3) := by decide +kernel
theorem dX5_left_15 : decode cX5_left 15 = .ok (.ifCond .eq 13, 3) := by decide +kernel
theorem dX5_left_18 : decode cX5_left 18 = .ok (.iload_n 3, 1) := by decide +kernel
theorem dX5_left_19 : decode cX5_left 19 = .ok (.iconst 0, 1) := by decide +kernel
theorem dX5_left_20 : decode cX5_left 20 = .ok (.bipush 10, 2) := by decide +kernel
theorem dX5_left_22 : decode cX5_left 22 = .ok (.invokestatic 85, 3) := by decide +kernel
theorem dX5_left_25 : decode cX5_left 25 = .ok (.ifCond .ne 10, 3) := by decide +kernel
theorem dX5_left_28 : decode cX5_left 28 = .ok (.aload_n 0, 1) := by decide +kernel
theorem dX5_left_29 : decode cX5_left 29 = .ok (.bipush (-2), 2) := by decide +kernel
theorem dX5_left_31 : decode cX5_left 31 = .ok (.invokevirtual 89, 3) := by decide +kernel
theorem dX5_left_34 : decode cX5_left 34 = .ok (.ireturn, 1) := by decide +kernel
theorem dX5_left_35 : decode cX5_left 35 = .ok (.ldc2_w 278, 3) := by decide +kernel
theorem dX5_left_38 : decode cX5_left 38 = .ok (.iload_n 2, 1) := by decide +kernel
theorem dX5_left_39 : decode cX5_left 39 = .ok (.invokestatic 280, 3) := by decide +kernel
theorem dX5_left_42 : decode cX5_left 42 = .ok (.lstore 4, 2) := by decide +kernel
theorem dX5_left_44 : decode cX5_left 44 = .ok (.bipush 10, 2) := by decide +kernel
theorem dX5_left_46 : decode cX5_left 46 = .ok (.iload_n 3, 1) := by decide +kernel
theorem dX5_left_47 : decode cX5_left 47 = .ok (.isub, 1) := by decide +kernel
theorem dX5_left_48 : decode cX5_left 48 = .ok (.i2l, 1) := by decide +kernel
theorem dX5_left_49 : decode cX5_left 49 = .ok (.iload_n 2, 1) := by decide +kernel
theorem dX5_left_50 : decode cX5_left 50 = .ok (.invokestatic 280, 3) := by decide +kernel
theorem dX5_left_53 : decode cX5_left 53 = .ok (.lstore 6, 2) := by decide +kernel
theorem dX5_left_55 : decode cX5_left 55 = .ok (.lconst 0, 1) := by decide +kernel
theorem dX5_left_56 : decode cX5_left 56 = .ok (.lstore 8, 2) := by decide +kernel
theorem dX5_left_58 : decode cX5_left 58 = .ok (.iload_n 1, 1) := by decide +kernel
theorem dX5_left_59 : decode cX5_left 59 = .ok (.istore 10, 2) := by decide +kernel
theorem dX5_left_61 : decode cX5_left 61 = .ok (.iload 10, 2) := by decide +kernel
theorem dX5_left_63 : decode cX5_left 63 = .ok (.aload_n 0, 1) := by decide +kernel
theorem dX5_left_64 : decode cX5_left 64 = .ok (.getfield 10, 3) := by decide +kernel
theorem dX5_left_67 : decode cX5_left 67 = .ok (.getfield 71, 3) := by decide +kernel
theorem dX5_left_70 : decode cX5_left 70 = .ok (.if_icmp .gt 53, 3) := by decide +kernel
theorem dX5_left_73 : decode cX5_left 73 = .ok (.lload 8, 2) := by decide +kernel
theorem dX5_left_75 : decode cX5_left 75 = .ok (.aload_n 0, 1) := by decide +kernel
theorem dX5_left_76 : decode cX5_left 76 = .ok (.getfield 10, 3) := by decide +kernel
theorem dX5_left_79 : decode cX5_left 79 = .ok (.getfield 71, 3) := by decide +kernel
theorem dX5_left_82 : decode cX5_left 82 = .ok (.iload 10, 2) := by decide +kernel
theorem dX5_left_84 : decode cX5_left 84 = .ok (.invokestatic 284, 3) := by decide +kernel
theorem dX5_left_87 : decode cX5_left 87 = .ok (.lload 6, 2) := by decide +kernel
theorem dX5_left_89 : decode cX5_left 89 = .ok (.iload 10, 2) := by decide +kernel
theorem dX5_left_91 : decode cX5_left 91 = .ok (.invokestatic 280, 3) := by decide +kernel
theorem dX5_left_94 : decode cX5_left 94 = .ok (.lmul, 1) := by decide +kernel
theorem dX5_left_95 : decode cX5_left 95 = .ok (.lload 4, 2) := by decide +kernel
theorem dX5_left_97 : decode cX5_left 97 = .ok (.lload 6, 2) := by decide +kernel
theorem dX5_left_99 : decode cX5_left 99 = .ok (.lsub, 1) := by decide +kernel
theorem dX5_left_100 : decode cX5_left 100 = .ok (.aload_n 0, 1) := by decide +kernel
theorem dX5_left_101 : decode cX5_left 101 = .ok (.getfield 10, 3) := by decide +kernel
theorem dX5_left_104 : decode cX5_left 104 = .ok (.getfield 71, 3) := by decide +kernel
theorem dX5_left_107 : decode cX5_left 107 = .ok (.iload 10, 2) := by decide +kernel
theorem dX5_left_109 : decode cX5_left 109 = .ok (.isub, 1) := by decide +kernel
theorem dX5_left_110 : decode cX5_left 110 = .ok (.invokestatic 280, 3) := by decide +kernel
theorem dX5_left_113 : decode cX5_left 113 = .ok (.lmul, 1) := by decide +kernel
theorem dX5_left_114 : decode cX5_left 114 = .ok (.ladd, 1) := by decide +kernel
theorem dX5_left_115 : decode cX5_left 115 = .ok (.lstore 8, 2) := by decide +kernel
theorem dX5_left_117 : decode cX5_left 117 = .ok (.iinc 10 1, 3) := by decide +kernel
theorem dX5_left_120 : decode cX5_left 120 = .ok (.goto (-59), 3) := by decide +kernel
theorem dX5_left_123 : decode cX5_left 123 = .ok (.aload_n 0, 1) := by decide +kernel
theorem dX5_left_124 : decode cX5_left 124 = .ok (.lload 8, 2) := by decide +kernel
theorem dX5_left_126 : decode cX5_left 126 = .ok (.lload 4, 2) := by decide +kernel
theorem dX5_left_128 : decode cX5_left 128 = .ok (.aload_n 0, 1) := by decide +kernel
theorem dX5_left_129 : decode cX5_left 129 = .ok (.getfield 10, 3) := by decide +kernel
theorem dX5_left_132 : decode cX5_left 132 = .ok (.getfield 71, 3) := by decide +kernel
theorem dX5_left_135 : decode cX5_left 135 = .ok (.invokestatic 280, 3) := by decide +kernel
theorem dX5_left_138 : decode cX5_left 138 = .ok (.invokevirtual 288, 3) := by decide +kernel
theorem dX5_left_141 : decode cX5_left 141 = .ok (.iconst 1, 1) := by decide +kernel
theorem dX5_left_142 : decode cX5_left 142 = .ok (.ireturn, 1) := by decide +kernel
theorem dX5_years_0 : decode cX5_years 0 = .ok (.iload_n 1, 1) := by decide +kernel
theorem dX5_years_1 : decode cX5_years 1 = .ok (.iconst 0, 1) := by decide +kernel
theorem dX5_years_2 : decode cX5_years 2 = .ok (.ldc_w 292, 3) := by decide +kernel
theorem dX5_years_5 : decode cX5_years 5 = .ok (.invokestatic 85, 3) := by decide +kernel
theorem dX5_years_8 : decode cX5_years 8 = .ok (.ifCond .eq 10, 3) := by decide +kernel
theorem dX5_years_11 : decode cX5_years 11 = .ok (.iload_n 2, 1) := by decide +kernel
theorem dX5_years_12 : decode cX5_years 12 = .ok (.invokestatic 199, 3) := by decide +kernel
theorem dX5_years_15 : decode cX5_years 15 = .ok (.ifCond .ne 10, 3) := by decide +kernel
theorem dX5_years_18 : decode cX5_years 18 = .ok (.aload_n 0, 1) := by decide +kernel
theorem dX5_years_19 : decode cX5_years 19 = .ok (.bipush (-2), 2) := by decide +kernel
theorem dX5_years_21 : decode cX5_years 21 = .ok (.invokevirtual 89, 3) := by decide +kernel
theorem dX5_years_24 : decode cX5_years 24 = .ok (.ireturn, 1) := by decide +kernel
theorem dX5_years_25 : decode cX5_years 25 = .ok (.aload_n 0, 1) := by decide +kernel
theorem dX5_years_26 : decode cX5_years 26 = .ok (.getfield 30, 3) := by decide +kernel
theorem dX5_years_29 : decode cX5_years 29 = .ok (.aload_n 0, 1) := by decide +kernel
theorem dX5_years_30 : decode cX5_years 30 = .ok (.getfield 10, 3) := by decide +kernel
theorem dX5_years_33 : decode cX5_years 33 = .ok (.getfield 131, 3) := by decide +kernel
theorem dX5_years_36 : decode cX5_years 36 = .ok (.invokevirtual 209, 3) := by decide +kernel
theorem dX5_years_39 : decode cX5_years 39 = .ok (.iload_n 1, 1) := by decide +kernel
theorem dX5_years_40 : decode cX5_years 40 = .ok (.i2l, 1) := by decide +kernel
theorem dX5_years_41 : decode cX5_years 41 = .ok (.lstore_n 3, 1) := by decide +kernel
theorem dX5_years_42 : decode cX5_years 42 = .ok (.iconst 0, 1) := by decide +kernel
theorem dX5_years_43 : decode cX5_years 43 = .ok (.istore 5, 2) := by decide +kernel
theorem dX5_years_45 : decode cX5_years 45 = .ok (.iload 5, 2) := by decide +kernel
theorem dX5_years_47 : decode cX5_years 47 = .ok (.iload_n 2, 1) := by decide +kernel
theorem dX5_years_48 : decode cX5_years 48 = .ok (.if_icmp .ge 94, 3) := by decide +kernel
theorem dX5_years_51 : decode cX5_years 51 = .ok (.lload_n 3, 1) := by decide +kernel
theorem dX5_years_52 : decode cX5_years 52 = .ok (.ldc2_w 293, 3) := by decide +kernel
theorem dX5_years_55 : decode cX5_years 55 = .ok (.lmul, 1) := by decide +kernel
theorem dX5_years_56 : decode cX5_years 56 = .ok (.ldc2_w 295, 3) := by decide +kernel
theorem dX5_years_59 : decode cX5_years 59 = .ok (.ladd, 1) := by decide +kernel
theorem dX5_years_60 : decode cX5_years 60 = .ok (.ldc2_w 297, 3) := by decide +kernel
theorem dX5_years_63 : decode cX5_years 63 = .ok (.lrem, 1) := by decide +kernel
theorem dX5_years_64 : decode cX5_years 64 = .ok (.lstore_n 3, 1) := by decide +kernel
theorem dX5_years_65 : decode cX5_years 65 = .ok (.lload_n 3, 1) := by decide +kernel
theorem dX5_years_66 : decode cX5_years 66 = .ok (.ldc2_w 299, 3) := by decide +kernel
theorem dX5_years_69 : decode cX5_years 69 = .ok (.ldiv, 1) := by decide +kernel
theorem dX5_years_70 : decode cX5_years 70 = .ok (.ldc2_w 301, 3) := by decide +kernel
theorem dX5_years_73 : decode cX5_years 73 = .ok (.lrem, 1) := by decide +kernel
theorem dX5_years_74 : decode cX5_years 74 = .ok (.l2i, 1) := by decide +kernel
theorem dX5_years_75 : decode cX5_years 75 = .ok (.istore 6, 2) := by decide +kernel
theorem dX5_years_77 : decode cX5_years 77 = .ok (.lload_n 3, 1) := by decide +kernel
theorem dX5_years_78 : decode cX5_years 78 = .ok (.ldc2_w 303, 3) := by decide +kernel
theorem dX5_years_81 : decode cX5_years 81 = .ok (.ldiv, 1) := by decide +kernel
theorem dX5_years_82 : decode cX5_years 82 = .ok (.ldc2_w 301, 3) := by decide +kernel
theorem dX5_years_85 : decode cX5_years 85 = .ok (.lrem, 1) := by decide +kernel
theorem dX5_years_86 : decode cX5_years 86 = .ok (.l2i, 1) := by decide +kernel
theorem dX5_years_87 : decode cX5_years 87 = .ok (.istore 7, 2) := by decide +kernel
theorem dX5_years_89 : decode cX5_years 89 = .ok (.aload_n 0, 1) := by decide +kernel
theorem dX5_years_90 : decode cX5_years 90 = .ok (.iload 6, 2) := by decide +kernel
theorem dX5_years_92 : decode cX5_years 92 = .ok (.invokevirtual 122, 3) := by decide +kernel
theorem dX5_years_95 : decode cX5_years 95 = .ok (.ifCond .eq 30, 3) := by decide +kernel
theorem dX5_years_98 : decode cX5_years 98 = .ok (.aload_n 0, 1) := by decide +kernel
theorem dX5_years_99 : decode cX5_years 99 = .ok (.iload 7, 2) := by decide +kernel
theorem dX5_years_101 : decode cX5_years 101 = .ok (.invokevirtual 122, 3) := by decide +kernel
theorem dX5_years_104 : decode cX5_years 104 = .ok (.ifCond .eq 21, 3) := by decide +kernel
theorem dX5_years_107 : decode cX5_years 107 = .ok (.iload 6, 2) := by decide +kernel
theorem dX5_years_109 : decode cX5_years 109 = .ok (.iload 7, 2) := by decide +kernel
theorem dX5_years_111 : decode cX5_years 111 = .ok (.if_icmp .eq 14, 3) := by decide +kernel
theorem dX5_years_114 : decode cX5_years 114 = .ok (.aload_n 0, 1) := by decide +kernel
theorem dX5_years_115 : decode cX5_years 115 = .ok (.getfield 30, 3) := by decide +kernel
theorem dX5_years_118 : decode cX5_years 118 = .ok (.iload 6, 2) := by decide +kernel
theorem dX5_years_120 : decode cX5_years 120 = .ok (.iload 7, 2) := by decide +kernel
theorem dX5_years_122 : decode cX5_years 122 = .ok (.invokevirtual 144, 3) := by decide +kernel
theorem dX5_years_125 : decode cX5_years 125 = .ok (.aload_n 0, 1) := by decide +kernel
theorem dX5_years_126 : decode cX5_years 126 = .ok (.getfield 10, 3) := by decide +kernel
theorem dX5_years_129 : decode cX5_years 129 = .ok (.aload_n 0, 1) := by decide +kernel
theorem dX5_years_130 : decode cX5_years 130 = .ok (.getfield 30, 3) := by decide +kernel
theorem dX5_years_133 : decode cX5_years 133 = .ok (.invokevirtual 215, 3) := by decide +kernel
theorem dX5_years_136 : decode cX5_years 136 = .ok (.iinc 5 1, 3) := by decide +kernel
theorem dX5_years_139 : decode cX5_years 139 = .ok (.goto (-94), 3) := by decide +kernel
theorem dX5_years_142 : decode cX5_years 142 = .ok (.aload_n 0, 1) := by decide +kernel
theorem dX5_years_143 : decode cX5_years 143 = .ok (.getfield 30, 3) := by decide +kernel
theorem dX5_years_146 : decode cX5_years 146 = .ok (.invokevirtual 152, 3) := by decide +kernel
theorem dX5_years_149 : decode cX5_years 149 = .ok (.ireturn, 1) := by decide +kernel
theorem dX5_part_0 : decode cX5_part 0 = .ok (.iload_n 1, 1) := by decide +kernel
theorem dX5_part_1 : decode cX5_part 1 = .ok (.iconst 0, 1) := by decide +kernel
theorem dX5_part_2 : decode cX5_part 2 = .ok (.iconst 1, 1) := by decide +kernel
theorem dX5_part_3 : decode cX5_part 3 = .ok (.invokestatic 85, 3) := by decide +kernel
theorem dX5_part_6 : decode cX5_part 6 = .ok (.ifCond .ne 11, 3) := by decide +kernel
theorem dX5_part_9 : decode cX5_part 9 = .ok (.aload_n 0, 1) := by decide +kernel
theorem dX5_part_10 : decode cX5_part 10 = .ok (.bipush (-2), 2) := by decide +kernel
theorem dX5_part_12 : decode cX5_part 12 = .ok (.invokevirtual 89, 3) := by decide +kernel
theorem dX5_part_15 : decode cX5_part 15 = .ok (.i2l, 1) := by decide +kernel
theorem dX5_part_16 : decode cX5_part 16 = .ok (.lreturn, 1) := by decide +kernel
theorem dX5_part_17 : decode cX5_part 17 = .ok (.iload_n 1, 1) := by decide +kernel
theorem dX5_part_18 : decode cX5_part 18 = .ok (.ifCond .ne 10, 3) := by decide +kernel
theorem dX5_part_21 : decode cX5_part 21 = .ok (.aload_n 0, 1) := by decide +kernel
theorem dX5_part_22 : decode cX5_part 22 = .ok (.getfield 64, 3) := by decide +kernel
theorem dX5_part_25 : decode cX5_part 25 = .ok (.goto 7, 3) := by decide +kernel
theorem dX5_part_28 : decode cX5_part 28 = .ok (.aload_n 0, 1) := by decide +kernel
theorem dX5_part_29 : decode cX5_part 29 = .ok (.getfield 68, 3) := by decide +kernel
theorem dX5_part_32 : decode cX5_part 32 = .ok (.lreturn, 1) := by decide +kernel
theorem dX5_image_0 : decode cX5_image 0 = .ok (.iload_n 1, 1) := by decide +kernel
theorem dX5_image_1 : decode cX5_image 1 = .ok (.iconst 0, 1) := by decide +kernel
theorem dX5_image_2 : decode cX5_image 2 = .ok (.iconst 1, 1) := by decide +kernel
theorem dX5_image_3 : decode cX5_image 3 = .ok (.invokestatic 85, 3) := by decide +kernel
theorem dX5_image_6 : decode cX5_image 6 = .ok (.ifCond .ne 10, 3) := by decide +kernel
theorem dX5_image_9 : decode cX5_image 9 = .ok (.aload_n 0, 1) := by decide +kernel
theorem dX5_image_10 : decode cX5_image 10 = .ok (.bipush (-2), 2) := by decide +kernel
theorem dX5_image_12 : decode cX5_image 12 = .ok (.invokevirtual 89, 3) := by decide +kernel
theorem dX5_image_15 : decode cX5_image 15 = .ok (.ireturn, 1) := by decide +kernel
theorem dX5_image_16 : decode cX5_image 16 = .ok (.aload_n 0, 1) := by decide +kernel
theorem dX5_image_17 : decode cX5_image 17 = .ok (.getfield 19, 3) := by decide +kernel
theorem dX5_image_20 : decode cX5_image 20 = .ok (.iload_n 1, 1) := by decide +kernel
theorem dX5_image_21 : decode cX5_image 21 = .ok (.aaload, 1) := by decide +kernel
theorem dX5_image_22 : decode cX5_image 22 = .ok (.aload_n 0, 1) := by decide +kernel
theorem dX5_image_23 : decode cX5_image 23 = .ok (.getfield 10, 3) := by decide +kernel
theorem dX5_image_26 : decode cX5_image 26 = .ok (.invokevirtual 118, 3) := by decide +kernel
theorem dX5_image_29 : decode cX5_image 29 = .ok (.aload_n 0, 1) := by decide +kernel
theorem dX5_image_30 : decode cX5_image 30 = .ok (.getfield 23, 3) := by decide +kernel
theorem dX5_image_33 : decode cX5_image 33 = .ok (.iload_n 1, 1) := by decide +kernel
theorem dX5_image_34 : decode cX5_image 34 = .ok (.iconst 1, 1) := by decide +kernel
theorem dX5_image_35 : decode cX5_image 35 = .ok (.bastore, 1) := by decide +kernel
theorem dX5_image_36 : decode cX5_image 36 = .ok (.iconst 1, 1) := by decide +kernel
theorem dX5_image_37 : decode cX5_image 37 = .ok (.ireturn, 1) := by decide +kernel
theorem dX5_from_0 : decode cX5_from 0 = .ok (.iload_n 1, 1) := by decide +kernel
theorem dX5_from_1 : decode cX5_from 1 = .ok (.iconst 0, 1) := by decide +kernel
theorem dX5_from_2 : decode cX5_from 2 = .ok (.iconst 1, 1) := by decide +kernel
theorem dX5_from_3 : decode cX5_from 3 = .ok (.invokestatic 85, 3) := by decide +kernel
theorem dX5_from_6 : decode cX5_from 6 = .ok (.ifCond .ne 10, 3) := by decide +kernel
theorem dX5_from_9 : decode cX5_from 9 = .ok (.aload_n 0, 1) := by decide +kernel
theorem dX5_from_10 : decode cX5_from 10 = .ok (.bipush (-2), 2) := by decide +kernel
theorem dX5_from_12 : decode cX5_from 12 = .ok (.invokevirtual 89, 3) := by decide +kernel
theorem dX5_from_15 : decode cX5_from 15 = .ok (.ireturn, 1) := by decide +kernel
theorem dX5_from_16 : decode cX5_from 16 = .ok (.aload_n 0, 1) := by decide +kernel
theorem dX5_from_17 : decode cX5_from 17 = .ok (.getfield 23, 3) := by decide +kernel
theorem dX5_from_20 : decode cX5_from 20 = .ok (.iload_n 1, 1) := by decide +kernel
theorem dX5_from_21 : decode cX5_from 21 = .ok (.baload, 1) := by decide +kernel
theorem dX5_from_22 : decode cX5_from 22 = .ok (.ifCond .ne 10, 3) := by decide +kernel
theorem dX5_from_25 : decode cX5_from 25 = .ok (.aload_n 0, 1) := by decide +kernel
theorem dX5_from_26 : decode cX5_from 26 = .ok (.bipush (-3), 2) := by decide +kernel
theorem dX5_from_28 : decode cX5_from 28 = .ok (.invokevirtual 89, 3) := by decide +kernel
theorem dX5_from_31 : decode cX5_from 31 = .ok (.ireturn, 1) := by decide +kernel
theorem dX5_from_32 : decode cX5_from 32 = .ok (.aload_n 0, 1) := by decide +kernel
theorem dX5_from_33 : decode cX5_from 33 = .ok (.getfield 10, 3) := by decide +kernel
theorem dX5_from_36 : decode cX5_from 36 = .ok (.aload_n 0, 1) := by decide +kernel
theorem dX5_from_37 : decode cX5_from 37 = .ok (.getfield 19, 3) := by decide +kernel
theorem dX5_from_40 : decode cX5_from 40 = .ok (.iload_n 1, 1) := by decide +kernel
theorem dX5_from_41 : decode cX5_from 41 = .ok (.aaload, 1) := by decide +kernel
theorem dX5_from_42 : decode cX5_from 42 = .ok (.invokevirtual 118, 3) := by decide +kernel
theorem dX5_from_45 : decode cX5_from 45 = .ok (.iconst 1, 1) := by decide +kernel
theorem dX5_from_46 : decode cX5_from 46 = .ok (.ireturn, 1) := by decide +kernel
theorem dX5_status_0 : decode cX5_status 0 = .ok (.iload_n 1, 1) := by decide +kernel
theorem dX5_status_1 : decode cX5_status 1 = .ok (.iconst 0, 1) := by decide +kernel
theorem dX5_status_2 : decode cX5_status 2 = .ok (.iconst 2, 1) := by decide +kernel
theorem dX5_status_3 : decode cX5_status 3 = .ok (.invokestatic 85, 3) := by decide +kernel
theorem dX5_status_6 : decode cX5_status 6 = .ok (.ifCond .eq 12, 3) := by decide +kernel
theorem dX5_status_9 : decode cX5_status 9 = .ok (.aload_n 0, 1) := by decide +kernel
theorem dX5_status_10 : decode cX5_status 10 = .ok (.getfield 61, 3) := by decide +kernel
theorem dX5_status_13 : decode cX5_status 13 = .ok (.iload_n 1, 1) := by decide +kernel
theorem dX5_status_14 : decode cX5_status 14 = .ok (.iaload, 1) := by decide +kernel
theorem dX5_status_15 : decode cX5_status 15 = .ok (.goto 8, 3) := by decide +kernel
theorem dX5_status_18 : decode cX5_status 18 = .ok (.aload_n 0, 1) := by decide +kernel
theorem dX5_status_19 : decode cX5_status 19 = .ok (.iconst (-1), 1) := by decide +kernel
theorem dX5_status_20 : decode cX5_status 20 = .ok (.invokevirtual 128, 3) := by decide +kernel
theorem dX5_status_23 : decode cX5_status 23 = .ok (.ireturn, 1) := by decide +kernel
theorem dX5_count_0 : decode cX5_count 0 = .ok (.iload_n 1, 1) := by decide +kernel
theorem dX5_count_1 : decode cX5_count 1 = .ok (.iconst 0, 1) := by decide +kernel
theorem dX5_count_2 : decode cX5_count 2 = .ok (.bipush 10, 2) := by decide +kernel
theorem dX5_count_4 : decode cX5_count 4 = .ok (.invokestatic 85, 3) := by decide +kernel
theorem dX5_count_7 : decode cX5_count 7 = .ok (.ifCond .eq 11, 3) := by decide +kernel
theorem dX5_count_10 : decode cX5_count 10 = .ok (.aload_n 0, 1) := by decide +kernel
theorem dX5_count_11 : decode cX5_count 11 = .ok (.iload_n 1, 1) := by decide +kernel
theorem dX5_count_12 : decode cX5_count 12 = .ok (.invokevirtual 305, 3) := by decide +kernel
theorem dX5_count_15 : decode cX5_count 15 = .ok (.goto 9, 3) := by decide +kernel
theorem dX5_count_18 : decode cX5_count 18 = .ok (.aload_n 0, 1) := by decide +kernel
theorem dX5_count_19 : decode cX5_count 19 = .ok (.bipush (-2), 2) := by decide +kernel
theorem dX5_count_21 : decode cX5_count 21 = .ok (.invokevirtual 89, 3) := by decide +kernel
theorem dX5_count_24 : decode cX5_count 24 = .ok (.ireturn, 1) := by decide +kernel
theorem dX5_digest_0 : decode cX5_digest 0 = .ok (.ldc2_w 308, 3) := by decide +kernel
theorem dX5_digest_3 : decode cX5_digest 3 = .ok (.lstore_n 1, 1) := by decide +kernel
theorem dX5_digest_4 : decode cX5_digest 4 = .ok (.iconst 0, 1) := by decide +kernel
theorem dX5_digest_5 : decode cX5_digest 5 = .ok (.istore_n 3, 1) := by decide +kernel
theorem dX5_digest_6 : decode cX5_digest 6 = .ok (.iload_n 3, 1) := by decide +kernel
theorem dX5_digest_7 : decode cX5_digest 7 = .ok (.bipush 10, 2) := by decide +kernel
theorem dX5_digest_9 : decode cX5_digest 9 = .ok (.if_icmp .gt 22, 3) := by decide +kernel
theorem dX5_digest_12 : decode cX5_digest 12 = .ok (.ldc2_w 310, 3) := by decide +kernel
theorem dX5_digest_15 : decode cX5_digest 15 = .ok (.lload_n 1, 1) := by decide +kernel
theorem dX5_digest_16 : decode cX5_digest 16 = .ok (.lmul, 1) := by decide +kernel
theorem dX5_digest_17 : decode cX5_digest 17 = .ok (.aload_n 0, 1) := by decide +kernel
theorem dX5_digest_18 : decode cX5_digest 18 = .ok (.iload_n 3, 1) := by decide +kernel
theorem dX5_digest_19 : decode cX5_digest 19 = .ok (.invokevirtual 305, 3) := by decide +kernel
theorem dX5_digest_22 : decode cX5_digest 22 = .ok (.i2l, 1) := by decide +kernel
theorem dX5_digest_23 : decode cX5_digest 23 = .ok (.ladd, 1) := by decide +kernel
theorem dX5_digest_24 : decode cX5_digest 24 = .ok (.lstore_n 1, 1) := by decide +kernel
theorem dX5_digest_25 : decode cX5_digest 25 = .ok (.iinc 3 1, 3) := by decide +kernel
theorem dX5_digest_28 : decode cX5_digest 28 = .ok (.goto (-22), 3) := by decide +kernel
theorem dX5_digest_31 : decode cX5_digest 31 = .ok (.aload_n 0, 1) := by decide +kernel
theorem dX5_digest_32 : decode cX5_digest 32 = .ok (.getfield 10, 3) := by decide +kernel
theorem dX5_digest_35 : decode cX5_digest 35 = .ok (.lload_n 1, 1) := by decide +kernel
theorem dX5_digest_36 : decode cX5_digest 36 = .ok (.invokevirtual 312, 3) := by decide +kernel
theorem dX5_digest_39 : decode cX5_digest 39 = .ok (.lstore_n 1, 1) := by decide +kernel
theorem dX5_digest_40 : decode cX5_digest 40 = .ok (.ldc2_w 310, 3) := by decide +kernel
theorem dX5_digest_43 : decode cX5_digest 43 = .ok (.ldc2_w 310, 3) := by decide +kernel
theorem dX5_digest_46 : decode cX5_digest 46 = .ok (.lload_n 1, 1) := by decide +kernel
theorem dX5_digest_47 : decode cX5_digest 47 = .ok (.lmul, 1) := by decide +kernel
theorem dX5_digest_48 : decode cX5_digest 48 = .ok (.aload_n 0, 1) := by decide +kernel
theorem dX5_digest_49 : decode cX5_digest 49 = .ok (.getfield 64, 3) := by decide +kernel
theorem dX5_digest_52 : decode cX5_digest 52 = .ok (.ladd, 1) := by decide +kernel
theorem dX5_digest_53 : decode cX5_digest 53 = .ok (.lmul, 1) := by decide +kernel
theorem dX5_digest_54 : decode cX5_digest 54 = .ok (.aload_n 0, 1) := by decide +kernel
theorem dX5_digest_55 : decode cX5_digest 55 = .ok (.getfield 68, 3) := by decide +kernel
theorem dX5_digest_58 : decode cX5_digest 58 = .ok (.ladd, 1) := by decide +kernel
theorem dX5_digest_59 : decode cX5_digest 59 = .ok (.lreturn, 1) := by decide +kernel
theorem dX5_refuse_0 : decode cX5_refuse 0 = .ok (.aload_n 0, 1) := by decide +kernel
theorem dX5_refuse_1 : decode cX5_refuse 1 = .ok (.getfield 61, 3) := by decide +kernel
theorem dX5_refuse_4 : decode cX5_refuse 4 = .ok (.iload_n 1, 1) := by decide +kernel
theorem dX5_refuse_5 : decode cX5_refuse 5 = .ok (.bipush (-2), 2) := by decide +kernel
theorem dX5_refuse_7 : decode cX5_refuse 7 = .ok (.if_icmp .ne 7, 3) := by decide +kernel
theorem dX5_refuse_10 : decode cX5_refuse 10 = .ok (.iconst 0, 1) := by decide +kernel
theorem dX5_refuse_11 : decode cX5_refuse 11 = .ok (.goto 14, 3) := by decide +kernel
theorem dX5_refuse_14 : decode cX5_refuse 14 = .ok (.iload_n 1, 1) := by decide +kernel
theorem dX5_refuse_15 : decode cX5_refuse 15 = .ok (.bipush (-3), 2) := by decide +kernel
theorem dX5_refuse_17 : decode cX5_refuse 17 = .ok (.if_icmp .ne 7, 3) := by decide +kernel
theorem dX5_refuse_20 : decode cX5_refuse 20 = .ok (.iconst 1, 1) := by decide +kernel
theorem dX5_refuse_21 : decode cX5_refuse 21 = .ok (.goto 4, 3) := by decide +kernel
theorem dX5_refuse_24 : decode cX5_refuse 24 = .ok (.iconst 2, 1) := by decide +kernel
theorem dX5_refuse_25 : decode cX5_refuse 25 = .ok (.dup2, 1) := by decide +kernel
theorem dX5_refuse_26 : decode cX5_refuse 26 = .ok (.iaload, 1) := by decide +kernel
theorem dX5_refuse_27 : decode cX5_refuse 27 = .ok (.iconst 1, 1) := by decide +kernel
end
section
theorem dX5_refuse_28 : decode cX5_refuse 28 = .ok (.iadd, 1) := by decide +kernel
theorem dX5_refuse_29 : decode cX5_refuse 29 = .ok (.iastore, 1) := by decide +kernel
theorem dX5_refuse_30 : decode cX5_refuse 30 = .ok (.iload_n 1, 1) := by decide +kernel
theorem dX5_refuse_31 : decode cX5_refuse 31 = .ok (.ireturn, 1) := by decide +kernel
theorem dX5_refuseAs_0 : decode cX5_refuseAs 0 = .ok (.aload_n 0, 1) := by decide +kernel
theorem dX5_refuseAs_1 : decode cX5_refuseAs 1 = .ok (.getfield 61, 3) := by decide +kernel
theorem dX5_refuseAs_4 : decode cX5_refuseAs 4 = .ok (.iconst 0, 1) := by decide +kernel
theorem dX5_refuseAs_5 : decode cX5_refuseAs 5 = .ok (.dup2, 1) := by decide +kernel
theorem dX5_refuseAs_6 : decode cX5_refuseAs 6 = .ok (.iaload, 1) := by decide +kernel
theorem dX5_refuseAs_7 : decode cX5_refuseAs 7 = .ok (.iconst 1, 1) := by decide +kernel
theorem dX5_refuseAs_8 : decode cX5_refuseAs 8 = .ok (.iadd, 1) := by decide +kernel
theorem dX5_refuseAs_9 : decode cX5_refuseAs 9 = .ok (.iastore, 1) := by decide +kernel
theorem dX5_refuseAs_10 : decode cX5_refuseAs 10 = .ok (.iload_n 1, 1) := by decide +kernel
theorem dX5_refuseAs_11 : decode cX5_refuseAs 11 = .ok (.ireturn, 1) := by decide +kernel
theorem dX5_within_0 : decode cX5_within 0 = .ok (.iload_n 0, 1) := by decide +kernel
theorem dX5_within_1 : decode cX5_within 1 = .ok (.iload_n 1, 1) := by decide +kernel
theorem dX5_within_2 : decode cX5_within 2 = .ok (.if_icmp .lt 12, 3) := by decide +kernel
theorem dX5_within_5 : decode cX5_within 5 = .ok (.iload_n 0, 1) := by decide +kernel
theorem dX5_within_6 : decode cX5_within 6 = .ok (.iload_n 2, 1) := by decide +kernel
theorem dX5_within_7 : decode cX5_within 7 = .ok (.if_icmp .gt 7, 3) := by decide +kernel
theorem dX5_within_10 : decode cX5_within 10 = .ok (.iconst 1, 1) := by decide +kernel
theorem dX5_within_11 : decode cX5_within 11 = .ok (.goto 4, 3) := by decide +kernel
theorem dX5_within_14 : decode cX5_within 14 = .ok (.iconst 0, 1) := by decide +kernel
theorem dX5_within_15 : decode cX5_within 15 = .ok (.ireturn, 1) := by decide +kernel
theorem dX5_isKind_0 : decode cX5_isKind 0 = .ok (.iload_n 0, 1) := by decide +kernel
theorem dX5_isKind_1 : decode cX5_isKind 1 = .ok (.iconst 0, 1) := by decide +kernel
theorem dX5_isKind_2 : decode cX5_isKind 2 = .ok (.iconst 5, 1) := by decide +kernel
theorem dX5_isKind_3 : decode cX5_isKind 3 = .ok (.invokestatic 85, 3) := by decide +kernel
theorem dX5_isKind_6 : decode cX5_isKind 6 = .ok (.ireturn, 1) := by decide +kernel
theorem dX5_isTrait_0 : decode cX5_isTrait 0 = .ok (.iload_n 0, 1) := by decide +kernel
theorem dX5_isTrait_1 : decode cX5_isTrait 1 = .ok (.iconst 0, 1) := by decide +kernel
theorem dX5_isTrait_2 : decode cX5_isTrait 2 = .ok (.iconst 3, 1) := by decide +kernel
theorem dX5_isTrait_3 : decode cX5_isTrait 3 = .ok (.invokestatic 85, 3) := by decide +kernel
theorem dX5_isTrait_6 : decode cX5_isTrait 6 = .ok (.ireturn, 1) := by decide +kernel
theorem dX5_isAhead_0 : decode cX5_isAhead 0 = .ok (.iload_n 0, 1) := by decide +kernel
theorem dX5_isAhead_1 : decode cX5_isAhead 1 = .ok (.iconst 0, 1) := by decide +kernel
theorem dX5_isAhead_2 : decode cX5_isAhead 2 = .ok (.bipush 60, 2) := by decide +kernel
theorem dX5_isAhead_4 : decode cX5_isAhead 4 = .ok (.invokestatic 85, 3) := by decide +kernel
theorem dX5_isAhead_7 : decode cX5_isAhead 7 = .ok (.ireturn, 1) := by decide +kernel
theorem dX5_isSeat_0 : decode cX5_isSeat 0 = .ok (.iload_n 1, 1) := by decide +kernel
theorem dX5_isSeat_1 : decode cX5_isSeat 1 = .ok (.iconst 0, 1) := by decide +kernel
theorem dX5_isSeat_2 : decode cX5_isSeat 2 = .ok (.aload_n 0, 1) := by decide +kernel
theorem dX5_isSeat_3 : decode cX5_isSeat 3 = .ok (.getfield 10, 3) := by decide +kernel
theorem dX5_isSeat_6 : decode cX5_isSeat 6 = .ok (.getfield 93, 3) := by decide +kernel
theorem dX5_isSeat_9 : decode cX5_isSeat 9 = .ok (.iconst 1, 1) := by decide +kernel
theorem dX5_isSeat_10 : decode cX5_isSeat 10 = .ok (.isub, 1) := by decide +kernel
theorem dX5_isSeat_11 : decode cX5_isSeat 11 = .ok (.invokestatic 85, 3) := by decide +kernel
theorem dX5_isSeat_14 : decode cX5_isSeat 14 = .ok (.ireturn, 1) := by decide +kernel
theorem dX5_isSeatOrNone_0 : decode cX5_isSeatOrNone 0 = .ok (.iload_n 1, 1) := by decide +kernel
theorem dX5_isSeatOrNone_1 : decode cX5_isSeatOrNone 1 = .ok (.iconst (-1), 1) := by decide +kernel
theorem dX5_isSeatOrNone_2 : decode cX5_isSeatOrNone 2 = .ok (.if_icmp .eq 11, 3) := by decide +kernel
theorem dX5_isSeatOrNone_5 : decode cX5_isSeatOrNone 5 = .ok (.aload_n 0, 1) := by decide +kernel
theorem dX5_isSeatOrNone_6 : decode cX5_isSeatOrNone 6 = .ok (.iload_n 1, 1) := by decide +kernel
theorem dX5_isSeatOrNone_7 : decode cX5_isSeatOrNone 7 = .ok (.invokevirtual 165, 3) := by decide +kernel
theorem dX5_isSeatOrNone_10 : decode cX5_isSeatOrNone 10 = .ok (.ifCond .eq 7, 3) := by decide +kernel
theorem dX5_isSeatOrNone_13 : decode cX5_isSeatOrNone 13 = .ok (.iconst 1, 1) := by decide +kernel
theorem dX5_isSeatOrNone_14 : decode cX5_isSeatOrNone 14 = .ok (.goto 4, 3) := by decide +kernel
theorem dX5_isSeatOrNone_17 : decode cX5_isSeatOrNone 17 = .ok (.iconst 0, 1) := by decide +kernel
theorem dX5_isSeatOrNone_18 : decode cX5_isSeatOrNone 18 = .ok (.ireturn, 1) := by decide +kernel
theorem dX5_isCanon_0 : decode cX5_isCanon 0 = .ok (.iload_n 1, 1) := by decide +kernel
theorem dX5_isCanon_1 : decode cX5_isCanon 1 = .ok (.iconst 0, 1) := by decide +kernel
theorem dX5_isCanon_2 : decode cX5_isCanon 2 = .ok (.aload_n 0, 1) := by decide +kernel
theorem dX5_isCanon_3 : decode cX5_isCanon 3 = .ok (.getfield 10, 3) := by decide +kernel
theorem dX5_isCanon_6 : decode cX5_isCanon 6 = .ok (.getfield 71, 3) := by decide +kernel
theorem dX5_isCanon_9 : decode cX5_isCanon 9 = .ok (.iconst 1, 1) := by decide +kernel
theorem dX5_isCanon_10 : decode cX5_isCanon 10 = .ok (.isub, 1) := by decide +kernel
theorem dX5_isCanon_11 : decode cX5_isCanon 11 = .ok (.invokestatic 85, 3) := by decide +kernel
theorem dX5_isCanon_14 : decode cX5_isCanon 14 = .ok (.ireturn, 1) := by decide +kernel
theorem dX5_lookAhead_0 : decode cX5_lookAhead 0 = .ok (.aload_n 0, 1) := by decide +kernel
theorem dX5_lookAhead_1 : decode cX5_lookAhead 1 = .ok (.getfield 30, 3) := by decide +kernel
theorem dX5_lookAhead_4 : decode cX5_lookAhead 4 = .ok (.aload_n 0, 1) := by decide +kernel
theorem dX5_lookAhead_5 : decode cX5_lookAhead 5 = .ok (.getfield 10, 3) := by decide +kernel
theorem dX5_lookAhead_8 : decode cX5_lookAhead 8 = .ok (.getfield 131, 3) := by decide +kernel
theorem dX5_lookAhead_11 : decode cX5_lookAhead 11 = .ok (.invokevirtual 209, 3) := by decide +kernel
theorem dX5_lookAhead_14 : decode cX5_lookAhead 14 = .ok (.iconst 0, 1) := by decide +kernel
theorem dX5_lookAhead_15 : decode cX5_lookAhead 15 = .ok (.istore_n 2, 1) := by decide +kernel
theorem dX5_lookAhead_16 : decode cX5_lookAhead 16 = .ok (.iload_n 2, 1) := by decide +kernel
theorem dX5_lookAhead_17 : decode cX5_lookAhead 17 = .ok (.iload_n 1, 1) := by decide +kernel
theorem dX5_lookAhead_18 : decode cX5_lookAhead 18 = .ok (.if_icmp .ge 20, 3) := by decide +kernel
theorem dX5_lookAhead_21 : decode cX5_lookAhead 21 = .ok (.aload_n 0, 1) := by decide +kernel
theorem dX5_lookAhead_22 : decode cX5_lookAhead 22 = .ok (.getfield 10, 3) := by decide +kernel
theorem dX5_lookAhead_25 : decode cX5_lookAhead 25 = .ok (.aload_n 0, 1) := by decide +kernel
theorem dX5_lookAhead_26 : decode cX5_lookAhead 26 = .ok (.getfield 30, 3) := by decide +kernel
theorem dX5_lookAhead_29 : decode cX5_lookAhead 29 = .ok (.invokevirtual 215, 3) := by decide +kernel
theorem dX5_lookAhead_32 : decode cX5_lookAhead 32 = .ok (.iinc 2 1, 3) := by decide +kernel
theorem dX5_lookAhead_35 : decode cX5_lookAhead 35 = .ok (.goto (-19), 3) := by decide +kernel
theorem dX5_lookAhead_38 : decode cX5_lookAhead 38 = .ok (.return_, 1) := by decide +kernel
theorem dX5_yearsUntil_0 : decode cX5_yearsUntil 0 = .ok (.aload_n 0, 1) := by decide +kernel
theorem dX5_yearsUntil_1 : decode cX5_yearsUntil 1 = .ok (.getfield 30, 3) := by decide +kernel
theorem dX5_yearsUntil_4 : decode cX5_yearsUntil 4 = .ok (.aload_n 0, 1) := by decide +kernel
theorem dX5_yearsUntil_5 : decode cX5_yearsUntil 5 = .ok (.getfield 10, 3) := by decide +kernel
theorem dX5_yearsUntil_8 : decode cX5_yearsUntil 8 = .ok (.getfield 131, 3) := by decide +kernel
theorem dX5_yearsUntil_11 : decode cX5_yearsUntil 11 = .ok (.invokevirtual 209, 3) := by decide +kernel
theorem dX5_yearsUntil_14 : decode cX5_yearsUntil 14 = .ok (.aload_n 0, 1) := by decide +kernel
theorem dX5_yearsUntil_15 : decode cX5_yearsUntil 15 = .ok (.getfield 30, 3) := by decide +kernel
theorem dX5_yearsUntil_18 : decode cX5_yearsUntil 18 = .ok (.getfield 141, 3) := by decide +kernel
theorem dX5_yearsUntil_21 : decode cX5_yearsUntil 21 = .ok (.iload_n 1, 1) := by decide +kernel
theorem dX5_yearsUntil_22 : decode cX5_yearsUntil 22 = .ok (.iload_n 2, 1) := by decide +kernel
theorem dX5_yearsUntil_23 : decode cX5_yearsUntil 23 = .ok (.iastore, 1) := by decide +kernel
theorem dX5_yearsUntil_24 : decode cX5_yearsUntil 24 = .ok (.iconst 0, 1) := by decide +kernel
theorem dX5_yearsUntil_25 : decode cX5_yearsUntil 25 = .ok (.istore 5, 2) := by decide +kernel
theorem dX5_yearsUntil_27 : decode cX5_yearsUntil 27 = .ok (.iload 5, 2) := by decide +kernel
theorem dX5_yearsUntil_29 : decode cX5_yearsUntil 29 = .ok (.bipush 60, 2) := by decide +kernel
theorem dX5_yearsUntil_31 : decode cX5_yearsUntil 31 = .ok (.if_icmp .gt 51, 3) := by decide +kernel
theorem dX5_yearsUntil_34 : decode cX5_yearsUntil 34 = .ok (.aload_n 0, 1) := by decide +kernel
theorem dX5_yearsUntil_35 : decode cX5_yearsUntil 35 = .ok (.getfield 30, 3) := by decide +kernel
theorem dX5_yearsUntil_38 : decode cX5_yearsUntil 38 = .ok (.iload_n 1, 1) := by decide +kernel
theorem dX5_yearsUntil_39 : decode cX5_yearsUntil 39 = .ok (.iload_n 3, 1) := by decide +kernel
theorem dX5_yearsUntil_40 : decode cX5_yearsUntil 40 = .ok (.invokevirtual 192, 3) := by decide +kernel
theorem dX5_yearsUntil_43 : decode cX5_yearsUntil 43 = .ok (.iload 4, 2) := by decide +kernel
theorem dX5_yearsUntil_45 : decode cX5_yearsUntil 45 = .ok (.if_icmp .lt 6, 3) := by decide +kernel
theorem dX5_yearsUntil_48 : decode cX5_yearsUntil 48 = .ok (.iload 5, 2) := by decide +kernel
theorem dX5_yearsUntil_50 : decode cX5_yearsUntil 50 = .ok (.ireturn, 1) := by decide +kernel
theorem dX5_yearsUntil_51 : decode cX5_yearsUntil 51 = .ok (.aload_n 0, 1) := by decide +kernel
theorem dX5_yearsUntil_52 : decode cX5_yearsUntil 52 = .ok (.getfield 10, 3) := by decide +kernel
theorem dX5_yearsUntil_55 : decode cX5_yearsUntil 55 = .ok (.aload_n 0, 1) := by decide +kernel
theorem dX5_yearsUntil_56 : decode cX5_yearsUntil 56 = .ok (.getfield 30, 3) := by decide +kernel
theorem dX5_yearsUntil_59 : decode cX5_yearsUntil 59 = .ok (.iload_n 1, 1) := by decide +kernel
theorem dX5_yearsUntil_60 : decode cX5_yearsUntil 60 = .ok (.invokevirtual 316, 3) := by decide +kernel
theorem dX5_yearsUntil_63 : decode cX5_yearsUntil 63 = .ok (.aload_n 0, 1) := by decide +kernel
theorem dX5_yearsUntil_64 : decode cX5_yearsUntil 64 = .ok (.getfield 30, 3) := by decide +kernel
theorem dX5_yearsUntil_67 : decode cX5_yearsUntil 67 = .ok (.dup, 1) := by decide +kernel
theorem dX5_yearsUntil_68 : decode cX5_yearsUntil 68 = .ok (.getfield 162, 3) := by decide +kernel
theorem dX5_yearsUntil_71 : decode cX5_yearsUntil 71 = .ok (.iconst 1, 1) := by decide +kernel
theorem dX5_yearsUntil_72 : decode cX5_yearsUntil 72 = .ok (.iadd, 1) := by decide +kernel
theorem dX5_yearsUntil_73 : decode cX5_yearsUntil 73 = .ok (.putfield 162, 3) := by decide +kernel
theorem dX5_yearsUntil_76 : decode cX5_yearsUntil 76 = .ok (.iinc 5 1, 3) := by decide +kernel
theorem dX5_yearsUntil_79 : decode cX5_yearsUntil 79 = .ok (.goto (-52), 3) := by decide +kernel
theorem dX5_yearsUntil_82 : decode cX5_yearsUntil 82 = .ok (.iconst (-1), 1) := by decide +kernel
theorem dX5_yearsUntil_83 : decode cX5_yearsUntil 83 = .ok (.ireturn, 1) := by decide +kernel
theorem dX5_write_0 : decode cX5_write 0 = .ok (.aload_n 1, 1) := by decide +kernel
theorem dX5_write_1 : decode cX5_write 1 = .ok (.getfield 257, 3) := by decide +kernel
theorem dX5_write_4 : decode cX5_write 4 = .ok (.bipush 6, 2) := by decide +kernel
theorem dX5_write_6 : decode cX5_write 6 = .ok (.if_icmp .lt 10, 3) := by decide +kernel
theorem dX5_write_9 : decode cX5_write 9 = .ok (.aload_n 0, 1) := by decide +kernel
theorem dX5_write_10 : decode cX5_write 10 = .ok (.bipush (-4), 2) := by decide +kernel
theorem dX5_write_12 : decode cX5_write 12 = .ok (.invokevirtual 89, 3) := by decide +kernel
theorem dX5_write_15 : decode cX5_write 15 = .ok (.ireturn, 1) := by decide +kernel
theorem dX5_write_16 : decode cX5_write 16 = .ok (.aload_n 1, 1) := by decide +kernel
theorem dX5_write_17 : decode cX5_write 17 = .ok (.iload_n 2, 1) := by decide +kernel
theorem dX5_write_18 : decode cX5_write 18 = .ok (.iload_n 3, 1) := by decide +kernel
theorem dX5_write_19 : decode cX5_write 19 = .ok (.iload 4, 2) := by decide +kernel
theorem dX5_write_21 : decode cX5_write 21 = .ok (.iload 5, 2) := by decide +kernel
theorem dX5_write_23 : decode cX5_write 23 = .ok (.iload 6, 2) := by decide +kernel
theorem dX5_write_25 : decode cX5_write 25 = .ok (.invokevirtual 320, 3) := by decide +kernel
theorem dX5_write_28 : decode cX5_write 28 = .ok (.aload_n 1, 1) := by decide +kernel
theorem dX5_write_29 : decode cX5_write 29 = .ok (.getfield 257, 3) := by decide +kernel
theorem dX5_write_32 : decode cX5_write 32 = .ok (.ireturn, 1) := by decide +kernel
theorem dX5_seatKinds_0 : decode cX5_seatKinds 0 = .ok (.aload_n 0, 1) := by decide +kernel
theorem dX5_seatKinds_1 : decode cX5_seatKinds 1 = .ok (.getfield 10, 3) := by decide +kernel
theorem dX5_seatKinds_4 : decode cX5_seatKinds 4 = .ok (.getfield 251, 3) := by decide +kernel
theorem dX5_seatKinds_7 : decode cX5_seatKinds 7 = .ok (.astore_n 2, 1) := by decide +kernel
theorem dX5_seatKinds_8 : decode cX5_seatKinds 8 = .ok (.iconst 0, 1) := by decide +kernel
theorem dX5_seatKinds_9 : decode cX5_seatKinds 9 = .ok (.istore_n 3, 1) := by decide +kernel
theorem dX5_seatKinds_10 : decode cX5_seatKinds 10 = .ok (.iconst 0, 1) := by decide +kernel
theorem dX5_seatKinds_11 : decode cX5_seatKinds 11 = .ok (.istore 4, 2) := by decide +kernel
theorem dX5_seatKinds_13 : decode cX5_seatKinds 13 = .ok (.iload 4, 2) := by decide +kernel
theorem dX5_seatKinds_15 : decode cX5_seatKinds 15 = .ok (.bipush 6, 2) := by decide +kernel
theorem dX5_seatKinds_17 : decode cX5_seatKinds 17 = .ok (.if_icmp .ge 109, 3) := by decide +kernel
theorem dX5_seatKinds_20 : decode cX5_seatKinds 20 = .ok (.iconst 1, 1) := by decide +kernel
theorem dX5_seatKinds_21 : decode cX5_seatKinds 21 = .ok (.istore 5, 2) := by decide +kernel
theorem dX5_seatKinds_23 : decode cX5_seatKinds 23 = .ok (.iconst 0, 1) := by decide +kernel
theorem dX5_seatKinds_24 : decode cX5_seatKinds 24 = .ok (.istore 6, 2) := by decide +kernel
theorem dX5_seatKinds_26 : decode cX5_seatKinds 26 = .ok (.iload 6, 2) := by decide +kernel
theorem dX5_seatKinds_28 : decode cX5_seatKinds 28 = .ok (.aload_n 2, 1) := by decide +kernel
theorem dX5_seatKinds_29 : decode cX5_seatKinds 29 = .ok (.getfield 257, 3) := by decide +kernel
theorem dX5_seatKinds_32 : decode cX5_seatKinds 32 = .ok (.if_icmp .ge 72, 3) := by decide +kernel
theorem dX5_seatKinds_35 : decode cX5_seatKinds 35 = .ok (.iload 4, 2) := by decide +kernel
theorem dX5_seatKinds_37 : decode cX5_seatKinds 37 = .ok (.aload_n 2, 1) := by decide +kernel
theorem dX5_seatKinds_38 : decode cX5_seatKinds 38 = .ok (.iload 6, 2) := by decide +kernel
theorem dX5_seatKinds_40 : decode cX5_seatKinds 40 = .ok (.iconst 1, 1) := by decide +kernel
theorem dX5_seatKinds_41 : decode cX5_seatKinds 41 = .ok (.invokevirtual 324, 3) := by decide +kernel
theorem dX5_seatKinds_44 : decode cX5_seatKinds 44 = .ok (.aload_n 2, 1) := by decide +kernel
theorem dX5_seatKinds_45 : decode cX5_seatKinds 45 = .ok (.iload 6, 2) := by decide +kernel
theorem dX5_seatKinds_47 : decode cX5_seatKinds 47 = .ok (.iconst 2, 1) := by decide +kernel
theorem dX5_seatKinds_48 : decode cX5_seatKinds 48 = .ok (.invokevirtual 324, 3) := by decide +kernel
theorem dX5_seatKinds_51 : decode cX5_seatKinds 51 = .ok (.aload_n 2, 1) := by decide +kernel
theorem dX5_seatKinds_52 : decode cX5_seatKinds 52 = .ok (.iload 6, 2) := by decide +kernel
theorem dX5_seatKinds_54 : decode cX5_seatKinds 54 = .ok (.iconst 3, 1) := by decide +kernel
theorem dX5_seatKinds_55 : decode cX5_seatKinds 55 = .ok (.invokevirtual 324, 3) := by decide +kernel
theorem dX5_seatKinds_58 : decode cX5_seatKinds 58 = .ok (.invokestatic 218, 3) := by decide +kernel
theorem dX5_seatKinds_61 : decode cX5_seatKinds 61 = .ok (.istore 7, 2) := by decide +kernel
theorem dX5_seatKinds_63 : decode cX5_seatKinds 63 = .ok (.iload 5, 2) := by decide +kernel
theorem dX5_seatKinds_65 : decode cX5_seatKinds 65 = .ok (.ifCond .eq 30, 3) := by decide +kernel
theorem dX5_seatKinds_68 : decode cX5_seatKinds 68 = .ok (.aload_n 2, 1) := by decide +kernel
theorem dX5_seatKinds_69 : decode cX5_seatKinds 69 = .ok (.iload 6, 2) := by decide +kernel
theorem dX5_seatKinds_71 : decode cX5_seatKinds 71 = .ok (.iconst 0, 1) := by decide +kernel
theorem dX5_seatKinds_72 : decode cX5_seatKinds 72 = .ok (.invokevirtual 324, 3) := by decide +kernel
theorem dX5_seatKinds_75 : decode cX5_seatKinds 75 = .ok (.iload_n 1, 1) := by decide +kernel
theorem dX5_seatKinds_76 : decode cX5_seatKinds 76 = .ok (.if_icmp .ne 15, 3) := by decide +kernel
theorem dX5_seatKinds_79 : decode cX5_seatKinds 79 = .ok (.iload 7, 2) := by decide +kernel
theorem dX5_seatKinds_81 : decode cX5_seatKinds 81 = .ok (.aload_n 2, 1) := by decide +kernel
theorem dX5_seatKinds_82 : decode cX5_seatKinds 82 = .ok (.iload 6, 2) := by decide +kernel
theorem dX5_seatKinds_84 : decode cX5_seatKinds 84 = .ok (.iconst 4, 1) := by decide +kernel
theorem dX5_seatKinds_85 : decode cX5_seatKinds 85 = .ok (.invokevirtual 324, 3) := by decide +kernel
theorem dX5_seatKinds_88 : decode cX5_seatKinds 88 = .ok (.if_icmp .ne 7, 3) := by decide +kernel
theorem dX5_seatKinds_91 : decode cX5_seatKinds 91 = .ok (.iconst 1, 1) := by decide +kernel
theorem dX5_seatKinds_92 : decode cX5_seatKinds 92 = .ok (.goto 4, 3) := by decide +kernel
theorem dX5_seatKinds_95 : decode cX5_seatKinds 95 = .ok (.iconst 0, 1) := by decide +kernel
theorem dX5_seatKinds_96 : decode cX5_seatKinds 96 = .ok (.istore 5, 2) := by decide +kernel
theorem dX5_seatKinds_98 : decode cX5_seatKinds 98 = .ok (.iinc 6 1, 3) := by decide +kernel
theorem dX5_seatKinds_101 : decode cX5_seatKinds 101 = .ok (.goto (-75), 3) := by decide +kernel
theorem dX5_seatKinds_104 : decode cX5_seatKinds 104 = .ok (.iload_n 3, 1) := by decide +kernel
theorem dX5_seatKinds_105 : decode cX5_seatKinds 105 = .ok (.iload 5, 2) := by decide +kernel
theorem dX5_seatKinds_107 : decode cX5_seatKinds 107 = .ok (.ifCond .eq 10, 3) := by decide +kernel
theorem dX5_seatKinds_110 : decode cX5_seatKinds 110 = .ok (.iconst 1, 1) := by decide +kernel
theorem dX5_seatKinds_111 : decode cX5_seatKinds 111 = .ok (.iload 4, 2) := by decide +kernel
theorem dX5_seatKinds_113 : decode cX5_seatKinds 113 = .ok (.ishl, 1) := by decide +kernel
theorem dX5_seatKinds_114 : decode cX5_seatKinds 114 = .ok (.goto 4, 3) := by decide +kernel
theorem dX5_seatKinds_117 : decode cX5_seatKinds 117 = .ok (.iconst 0, 1) := by decide +kernel
theorem dX5_seatKinds_118 : decode cX5_seatKinds 118 = .ok (.ior, 1) := by decide +kernel
theorem dX5_seatKinds_119 : decode cX5_seatKinds 119 = .ok (.istore_n 3, 1) := by decide +kernel
theorem dX5_seatKinds_120 : decode cX5_seatKinds 120 = .ok (.iinc 4 1, 3) := by decide +kernel
theorem dX5_seatKinds_123 : decode cX5_seatKinds 123 = .ok (.goto (-110), 3) := by decide +kernel
theorem dX5_seatKinds_126 : decode cX5_seatKinds 126 = .ok (.iload_n 3, 1) := by decide +kernel
theorem dX5_seatKinds_127 : decode cX5_seatKinds 127 = .ok (.ireturn, 1) := by decide +kernel
theorem dX5_canonKinds_0 : decode cX5_canonKinds 0 = .ok (.aload_n 0, 1) := by decide +kernel
theorem dX5_canonKinds_1 : decode cX5_canonKinds 1 = .ok (.getfield 10, 3) := by decide +kernel
theorem dX5_canonKinds_4 : decode cX5_canonKinds 4 = .ok (.getfield 254, 3) := by decide +kernel
theorem dX5_canonKinds_7 : decode cX5_canonKinds 7 = .ok (.astore_n 2, 1) := by decide +kernel
theorem dX5_canonKinds_8 : decode cX5_canonKinds 8 = .ok (.iconst 0, 1) := by decide +kernel
theorem dX5_canonKinds_9 : decode cX5_canonKinds 9 = .ok (.istore_n 3, 1) := by decide +kernel
theorem dX5_canonKinds_10 : decode cX5_canonKinds 10 = .ok (.iconst 0, 1) := by decide +kernel
theorem dX5_canonKinds_11 : decode cX5_canonKinds 11 = .ok (.istore 4, 2) := by decide +kernel
theorem dX5_canonKinds_13 : decode cX5_canonKinds 13 = .ok (.iload 4, 2) := by decide +kernel
theorem dX5_canonKinds_15 : decode cX5_canonKinds 15 = .ok (.bipush 6, 2) := by decide +kernel
theorem dX5_canonKinds_17 : decode cX5_canonKinds 17 = .ok (.if_icmp .ge 102, 3) := by decide +kernel
theorem dX5_canonKinds_20 : decode cX5_canonKinds 20 = .ok (.iconst 1, 1) := by decide +kernel
theorem dX5_canonKinds_21 : decode cX5_canonKinds 21 = .ok (.istore 5, 2) := by decide +kernel
theorem dX5_canonKinds_23 : decode cX5_canonKinds 23 = .ok (.iconst 0, 1) := by decide +kernel
theorem dX5_canonKinds_24 : decode cX5_canonKinds 24 = .ok (.istore 6, 2) := by decide +kernel
theorem dX5_canonKinds_26 : decode cX5_canonKinds 26 = .ok (.iload 6, 2) := by decide +kernel
theorem dX5_canonKinds_28 : decode cX5_canonKinds 28 = .ok (.aload_n 2, 1) := by decide +kernel
theorem dX5_canonKinds_29 : decode cX5_canonKinds 29 = .ok (.getfield 257, 3) := by decide +kernel
theorem dX5_canonKinds_32 : decode cX5_canonKinds 32 = .ok (.if_icmp .ge 65, 3) := by decide +kernel
theorem dX5_canonKinds_35 : decode cX5_canonKinds 35 = .ok (.iload 4, 2) := by decide +kernel
theorem dX5_canonKinds_37 : decode cX5_canonKinds 37 = .ok (.aload_n 2, 1) := by decide +kernel
theorem dX5_canonKinds_38 : decode cX5_canonKinds 38 = .ok (.iload 6, 2) := by decide +kernel
theorem dX5_canonKinds_40 : decode cX5_canonKinds 40 = .ok (.iconst 1, 1) := by decide +kernel
theorem dX5_canonKinds_41 : decode cX5_canonKinds 41 = .ok (.invokevirtual 324, 3) := by decide +kernel
theorem dX5_canonKinds_44 : decode cX5_canonKinds 44 = .ok (.aload_n 2, 1) := by decide +kernel
theorem dX5_canonKinds_45 : decode cX5_canonKinds 45 = .ok (.iload 6, 2) := by decide +kernel
theorem dX5_canonKinds_47 : decode cX5_canonKinds 47 = .ok (.iconst 2, 1) := by decide +kernel
theorem dX5_canonKinds_48 : decode cX5_canonKinds 48 = .ok (.invokevirtual 324, 3) := by decide +kernel
theorem dX5_canonKinds_51 : decode cX5_canonKinds 51 = .ok (.invokestatic 271, 3) := by decide +kernel
theorem dX5_canonKinds_54 : decode cX5_canonKinds 54 = .ok (.istore 7, 2) := by decide +kernel
theorem dX5_canonKinds_56 : decode cX5_canonKinds 56 = .ok (.iload 5, 2) := by decide +kernel
theorem dX5_canonKinds_58 : decode cX5_canonKinds 58 = .ok (.ifCond .eq 30, 3) := by decide +kernel
theorem dX5_canonKinds_61 : decode cX5_canonKinds 61 = .ok (.aload_n 2, 1) := by decide +kernel
theorem dX5_canonKinds_62 : decode cX5_canonKinds 62 = .ok (.iload 6, 2) := by decide +kernel
theorem dX5_canonKinds_64 : decode cX5_canonKinds 64 = .ok (.iconst 0, 1) := by decide +kernel
theorem dX5_canonKinds_65 : decode cX5_canonKinds 65 = .ok (.invokevirtual 324, 3) := by decide +kernel
theorem dX5_canonKinds_68 : decode cX5_canonKinds 68 = .ok (.iload_n 1, 1) := by decide +kernel
theorem dX5_canonKinds_69 : decode cX5_canonKinds 69 = .ok (.if_icmp .ne 15, 3) := by decide +kernel
theorem dX5_canonKinds_72 : decode cX5_canonKinds 72 = .ok (.iload 7, 2) := by decide +kernel
theorem dX5_canonKinds_74 : decode cX5_canonKinds 74 = .ok (.aload_n 2, 1) := by decide +kernel
theorem dX5_canonKinds_75 : decode cX5_canonKinds 75 = .ok (.iload 6, 2) := by decide +kernel
theorem dX5_canonKinds_77 : decode cX5_canonKinds 77 = .ok (.iconst 3, 1) := by decide +kernel
theorem dX5_canonKinds_78 : decode cX5_canonKinds 78 = .ok (.invokevirtual 324, 3) := by decide +kernel
theorem dX5_canonKinds_81 : decode cX5_canonKinds 81 = .ok (.if_icmp .ne 7, 3) := by decide +kernel
theorem dX5_canonKinds_84 : decode cX5_canonKinds 84 = .ok (.iconst 1, 1) := by decide +kernel
theorem dX5_canonKinds_85 : decode cX5_canonKinds 85 = .ok (.goto 4, 3) := by decide +kernel
theorem dX5_canonKinds_88 : decode cX5_canonKinds 88 = .ok (.iconst 0, 1) := by decide +kernel
theorem dX5_canonKinds_89 : decode cX5_canonKinds 89 = .ok (.istore 5, 2) := by decide +kernel
theorem dX5_canonKinds_91 : decode cX5_canonKinds 91 = .ok (.iinc 6 1, 3) := by decide +kernel
theorem dX5_canonKinds_94 : decode cX5_canonKinds 94 = .ok (.goto (-68), 3) := by decide +kernel
theorem dX5_canonKinds_97 : decode cX5_canonKinds 97 = .ok (.iload_n 3, 1) := by decide +kernel
theorem dX5_canonKinds_98 : decode cX5_canonKinds 98 = .ok (.iload 5, 2) := by decide +kernel
theorem dX5_canonKinds_100 : decode cX5_canonKinds 100 = .ok (.ifCond .eq 10, 3) := by decide +kernel
theorem dX5_canonKinds_103 : decode cX5_canonKinds 103 = .ok (.iconst 1, 1) := by decide +kernel
theorem dX5_canonKinds_104 : decode cX5_canonKinds 104 = .ok (.iload 4, 2) := by decide +kernel
theorem dX5_canonKinds_106 : decode cX5_canonKinds 106 = .ok (.ishl, 1) := by decide +kernel
theorem dX5_canonKinds_107 : decode cX5_canonKinds 107 = .ok (.goto 4, 3) := by decide +kernel
theorem dX5_canonKinds_110 : decode cX5_canonKinds 110 = .ok (.iconst 0, 1) := by decide +kernel
theorem dX5_canonKinds_111 : decode cX5_canonKinds 111 = .ok (.ior, 1) := by decide +kernel
theorem dX5_canonKinds_112 : decode cX5_canonKinds 112 = .ok (.istore_n 3, 1) := by decide +kernel
theorem dX5_canonKinds_113 : decode cX5_canonKinds 113 = .ok (.iinc 4 1, 3) := by decide +kernel
theorem dX5_canonKinds_116 : decode cX5_canonKinds 116 = .ok (.goto (-103), 3) := by decide +kernel
theorem dX5_canonKinds_119 : decode cX5_canonKinds 119 = .ok (.iload_n 3, 1) := by decide +kernel
theorem dX5_canonKinds_120 : decode cX5_canonKinds 120 = .ok (.ireturn, 1) := by decide +kernel
theorem dX5_mostAlike_0 : decode cX5_mostAlike 0 = .ok (.iconst 0, 1) := by decide +kernel
theorem dX5_mostAlike_1 : decode cX5_mostAlike 1 = .ok (.istore_n 2, 1) := by decide +kernel
theorem dX5_mostAlike_2 : decode cX5_mostAlike 2 = .ok (.iconst 0, 1) := by decide +kernel
theorem dX5_mostAlike_3 : decode cX5_mostAlike 3 = .ok (.istore_n 3, 1) := by decide +kernel
theorem dX5_mostAlike_4 : decode cX5_mostAlike 4 = .ok (.iload_n 3, 1) := by decide +kernel
theorem dX5_mostAlike_5 : decode cX5_mostAlike 5 = .ok (.bipush 6, 2) := by decide +kernel
theorem dX5_mostAlike_7 : decode cX5_mostAlike 7 = .ok (.if_icmp .ge 73, 3) := by decide +kernel
theorem dX5_mostAlike_10 : decode cX5_mostAlike 10 = .ok (.iconst 0, 1) := by decide +kernel
theorem dX5_mostAlike_11 : decode cX5_mostAlike 11 = .ok (.istore 4, 2) := by decide +kernel
theorem dX5_mostAlike_13 : decode cX5_mostAlike 13 = .ok (.iconst 0, 1) := by decide +kernel
theorem dX5_mostAlike_14 : decode cX5_mostAlike 14 = .ok (.istore 5, 2) := by decide +kernel
theorem dX5_mostAlike_16 : decode cX5_mostAlike 16 = .ok (.iload 5, 2) := by decide +kernel
theorem dX5_mostAlike_18 : decode cX5_mostAlike 18 = .ok (.bipush 6, 2) := by decide +kernel
theorem dX5_mostAlike_20 : decode cX5_mostAlike 20 = .ok (.if_icmp .ge 47, 3) := by decide +kernel
theorem dX5_mostAlike_23 : decode cX5_mostAlike 23 = .ok (.iload_n 1, 1) := by decide +kernel
theorem dX5_mostAlike_24 : decode cX5_mostAlike 24 = .ok (.iload_n 3, 1) := by decide +kernel
theorem dX5_mostAlike_25 : decode cX5_mostAlike 25 = .ok (.ishr, 1) := by decide +kernel
theorem dX5_mostAlike_26 : decode cX5_mostAlike 26 = .ok (.iconst 1, 1) := by decide +kernel
theorem dX5_mostAlike_27 : decode cX5_mostAlike 27 = .ok (.iand, 1) := by decide +kernel
theorem dX5_mostAlike_28 : decode cX5_mostAlike 28 = .ok (.iconst 1, 1) := by decide +kernel
theorem dX5_mostAlike_29 : decode cX5_mostAlike 29 = .ok (.if_icmp .ne 32, 3) := by decide +kernel
theorem dX5_mostAlike_32 : decode cX5_mostAlike 32 = .ok (.iload_n 1, 1) := by decide +kernel
theorem dX5_mostAlike_33 : decode cX5_mostAlike 33 = .ok (.iload 5, 2) := by decide +kernel
theorem dX5_mostAlike_35 : decode cX5_mostAlike 35 = .ok (.ishr, 1) := by decide +kernel
theorem dX5_mostAlike_36 : decode cX5_mostAlike 36 = .ok (.iconst 1, 1) := by decide +kernel
theorem dX5_mostAlike_37 : decode cX5_mostAlike 37 = .ok (.iand, 1) := by decide +kernel
theorem dX5_mostAlike_38 : decode cX5_mostAlike 38 = .ok (.iconst 1, 1) := by decide +kernel
theorem dX5_mostAlike_39 : decode cX5_mostAlike 39 = .ok (.if_icmp .ne 22, 3) := by decide +kernel
theorem dX5_mostAlike_42 : decode cX5_mostAlike 42 = .ok (.aload_n 0, 1) := by decide +kernel
theorem dX5_mostAlike_43 : decode cX5_mostAlike 43 = .ok (.getfield 52, 3) := by decide +kernel
theorem dX5_mostAlike_46 : decode cX5_mostAlike 46 = .ok (.iload 5, 2) := by decide +kernel
theorem dX5_mostAlike_48 : decode cX5_mostAlike 48 = .ok (.iaload, 1) := by decide +kernel
theorem dX5_mostAlike_49 : decode cX5_mostAlike 49 = .ok (.aload_n 0, 1) := by decide +kernel
theorem dX5_mostAlike_50 : decode cX5_mostAlike 50 = .ok (.getfield 52, 3) := by decide +kernel
theorem dX5_mostAlike_53 : decode cX5_mostAlike 53 = .ok (.iload_n 3, 1) := by decide +kernel
theorem dX5_mostAlike_54 : decode cX5_mostAlike 54 = .ok (.iaload, 1) := by decide +kernel
theorem dX5_mostAlike_55 : decode cX5_mostAlike 55 = .ok (.if_icmp .ne 6, 3) := by decide +kernel
theorem dX5_mostAlike_58 : decode cX5_mostAlike 58 = .ok (.iinc 4 1, 3) := by decide +kernel
theorem dX5_mostAlike_61 : decode cX5_mostAlike 61 = .ok (.iinc 5 1, 3) := by decide +kernel
theorem dX5_mostAlike_64 : decode cX5_mostAlike 64 = .ok (.goto (-48), 3) := by decide +kernel
theorem dX5_mostAlike_67 : decode cX5_mostAlike 67 = .ok (.iload_n 2, 1) := by decide +kernel
theorem dX5_mostAlike_68 : decode cX5_mostAlike 68 = .ok (.iload 4, 2) := by decide +kernel
theorem dX5_mostAlike_70 : decode cX5_mostAlike 70 = .ok (.invokestatic 246, 3) := by decide +kernel
theorem dX5_mostAlike_73 : decode cX5_mostAlike 73 = .ok (.istore_n 2, 1) := by decide +kernel
theorem dX5_mostAlike_74 : decode cX5_mostAlike 74 = .ok (.iinc 3 1, 3) := by decide +kernel
theorem dX5_mostAlike_77 : decode cX5_mostAlike 77 = .ok (.goto (-73), 3) := by decide +kernel
theorem dX5_mostAlike_80 : decode cX5_mostAlike 80 = .ok (.iload_n 2, 1) := by decide +kernel
theorem dX5_mostAlike_81 : decode cX5_mostAlike 81 = .ok (.ireturn, 1) := by decide +kernel
theorem dX5_isContent_0 : decode cX5_isContent 0 = .ok (.iload_n 2, 1) := by decide +kernel
theorem dX5_isContent_1 : decode cX5_isContent 1 = .ok (.iload_n 3, 1) := by decide +kernel
theorem dX5_isContent_2 : decode cX5_isContent 2 = .ok (.if_icmp .ne 7, 3) := by decide +kernel
theorem dX5_isContent_5 : decode cX5_isContent 5 = .ok (.iconst 0, 1) := by decide +kernel
theorem dX5_isContent_6 : decode cX5_isContent 6 = .ok (.goto 6, 3) := by decide +kernel
theorem dX5_isContent_9 : decode cX5_isContent 9 = .ok (.aload_n 1, 1) := by decide +kernel
theorem dX5_isContent_10 : decode cX5_isContent 10 = .ok (.iload_n 2, 1) := by decide +kernel
theorem dX5_isContent_11 : decode cX5_isContent 11 = .ok (.iaload, 1) := by decide +kernel
theorem dX5_isContent_12 : decode cX5_isContent 12 = .ok (.istore 4, 2) := by decide +kernel
theorem dX5_isContent_14 : decode cX5_isContent 14 = .ok (.iconst 0, 1) := by decide +kernel
theorem dX5_isContent_15 : decode cX5_isContent 15 = .ok (.istore 5, 2) := by decide +kernel
theorem dX5_isContent_17 : decode cX5_isContent 17 = .ok (.iload 5, 2) := by decide +kernel
theorem dX5_isContent_19 : decode cX5_isContent 19 = .ok (.aload_n 0, 1) := by decide +kernel
theorem dX5_isContent_20 : decode cX5_isContent 20 = .ok (.getfield 10, 3) := by decide +kernel
theorem dX5_isContent_23 : decode cX5_isContent 23 = .ok (.getfield 93, 3) := by decide +kernel
theorem dX5_isContent_26 : decode cX5_isContent 26 = .ok (.if_icmp .ge 26, 3) := by decide +kernel
theorem dX5_isContent_29 : decode cX5_isContent 29 = .ok (.iload 5, 2) := by decide +kernel
theorem dX5_isContent_31 : decode cX5_isContent 31 = .ok (.iload_n 3, 1) := by decide +kernel
theorem dX5_isContent_32 : decode cX5_isContent 32 = .ok (.if_icmp .eq 14, 3) := by decide +kernel
theorem dX5_isContent_35 : decode cX5_isContent 35 = .ok (.aload_n 1, 1) := by decide +kernel
theorem dX5_isContent_36 : decode cX5_isContent 36 = .ok (.iload 5, 2) := by decide +kernel
theorem dX5_isContent_38 : decode cX5_isContent 38 = .ok (.iaload, 1) := by decide +kernel
theorem dX5_isContent_39 : decode cX5_isContent 39 = .ok (.iload 4, 2) := by decide +kernel
theorem dX5_isContent_41 : decode cX5_isContent 41 = .ok (.if_icmp .le 5, 3) := by decide +kernel
theorem dX5_isContent_44 : decode cX5_isContent 44 = .ok (.iconst 0, 1) := by decide +kernel
theorem dX5_isContent_45 : decode cX5_isContent 45 = .ok (.ireturn, 1) := by decide +kernel
theorem dX5_isContent_46 : decode cX5_isContent 46 = .ok (.iinc 5 1, 3) := by decide +kernel
theorem dX5_isContent_49 : decode cX5_isContent 49 = .ok (.goto (-32), 3) := by decide +kernel
theorem dX5_isContent_52 : decode cX5_isContent 52 = .ok (.iconst 1, 1) := by decide +kernel
theorem dX5_isContent_53 : decode cX5_isContent 53 = .ok (.ireturn, 1) := by decide +kernel
theorem dX5_setFraction_0 : decode cX5_setFraction 0 = .ok (.lload_n 1, 1) := by decide +kernel
theorem dX5_setFraction_1 : decode cX5_setFraction 1 = .ok (.lstore 5, 2) := by decide +kernel
theorem dX5_setFraction_3 : decode cX5_setFraction 3 = .ok (.lload_n 3, 1) := by decide +kernel
theorem dX5_setFraction_4 : decode cX5_setFraction 4 = .ok (.lstore 7, 2) := by decide +kernel
theorem dX5_setFraction_6 : decode cX5_setFraction 6 = .ok (.iconst 0, 1) := by decide +kernel
theorem dX5_setFraction_7 : decode cX5_setFraction 7 = .ok (.istore 9, 2) := by decide +kernel
theorem dX5_setFraction_9 : decode cX5_setFraction 9 = .ok (.iload 9, 2) := by decide +kernel
theorem dX5_setFraction_11 : decode cX5_setFraction 11 = .ok (.sipush 1000, 3) := by decide +kernel
theorem dX5_setFraction_14 : decode cX5_setFraction 14 = .ok (.if_icmp .ge 31, 3) := by decide +kernel
theorem dX5_setFraction_17 : decode cX5_setFraction 17 = .ok (.lload 7, 2) := by decide +kernel
theorem dX5_setFraction_19 : decode cX5_setFraction 19 = .ok (.lconst 0, 1) := by decide +kernel
theorem dX5_setFraction_20 : decode cX5_setFraction 20 = .ok (.lcmp, 1) := by decide +kernel
theorem dX5_setFraction_21 : decode cX5_setFraction 21 = .ok (.ifCond .eq 24, 3) := by decide +kernel
theorem dX5_setFraction_24 : decode cX5_setFraction 24 = .ok (.lload 5, 2) := by decide +kernel
theorem dX5_setFraction_26 : decode cX5_setFraction 26 = .ok (.lload 7, 2) := by decide +kernel
theorem dX5_setFraction_28 : decode cX5_setFraction 28 = .ok (.lrem, 1) := by decide +kernel
theorem dX5_setFraction_29 : decode cX5_setFraction 29 = .ok (.lstore 10, 2) := by decide +kernel
theorem dX5_setFraction_31 : decode cX5_setFraction 31 = .ok (.lload 7, 2) := by decide +kernel
theorem dX5_setFraction_33 : decode cX5_setFraction 33 = .ok (.lstore 5, 2) := by decide +kernel
theorem dX5_setFraction_35 : decode cX5_setFraction 35 = .ok (.lload 10, 2) := by decide +kernel
theorem dX5_setFraction_37 : decode cX5_setFraction 37 = .ok (.lstore 7, 2) := by decide +kernel
theorem dX5_setFraction_39 : decode cX5_setFraction 39 = .ok (.iinc 9 1, 3) := by decide +kernel
theorem dX5_setFraction_42 : decode cX5_setFraction 42 = .ok (.goto (-33), 3) := by decide +kernel
theorem dX5_setFraction_45 : decode cX5_setFraction 45 = .ok (.lload 5, 2) := by decide +kernel
theorem dX5_setFraction_47 : decode cX5_setFraction 47 = .ok (.lconst 0, 1) := by decide +kernel
theorem dX5_setFraction_48 : decode cX5_setFraction 48 = .ok (.lcmp, 1) := by decide +kernel
theorem dX5_setFraction_49 : decode cX5_setFraction 49 = .ok (.ifCond .le 19, 3) := by decide +kernel
theorem dX5_setFraction_52 : decode cX5_setFraction 52 = .ok (.aload_n 0, 1) := by decide +kernel
theorem dX5_setFraction_53 : decode cX5_setFraction 53 = .ok (.lload_n 1, 1) := by decide +kernel
theorem dX5_setFraction_54 : decode cX5_setFraction 54 = .ok (.lload 5, 2) := by decide +kernel
theorem dX5_setFraction_56 : decode cX5_setFraction 56 = .ok (.ldiv, 1) := by decide +kernel
theorem dX5_setFraction_57 : decode cX5_setFraction 57 = .ok (.putfield 64, 3) := by decide +kernel
theorem dX5_setFraction_60 : decode cX5_setFraction 60 = .ok (.aload_n 0, 1) := by decide +kernel
theorem dX5_setFraction_61 : decode cX5_setFraction 61 = .ok (.lload_n 3, 1) := by decide +kernel
theorem dX5_setFraction_62 : decode cX5_setFraction 62 = .ok (.lload 5, 2) := by decide +kernel
theorem dX5_setFraction_64 : decode cX5_setFraction 64 = .ok (.ldiv, 1) := by decide +kernel
theorem dX5_setFraction_65 : decode cX5_setFraction 65 = .ok (.putfield 68, 3) := by decide +kernel
theorem dX5_setFraction_68 : decode cX5_setFraction 68 = .ok (.return_, 1) := by decide +kernel
theorem dX5_power_0 : decode cX5_power 0 = .ok (.lconst 1, 1) := by decide +kernel
theorem dX5_power_1 : decode cX5_power 1 = .ok (.lstore_n 3, 1) := by decide +kernel
theorem dX5_power_2 : decode cX5_power 2 = .ok (.iconst 0, 1) := by decide +kernel
theorem dX5_power_3 : decode cX5_power 3 = .ok (.istore 5, 2) := by decide +kernel
theorem dX5_power_5 : decode cX5_power 5 = .ok (.iload 5, 2) := by decide +kernel
theorem dX5_power_7 : decode cX5_power 7 = .ok (.iload_n 2, 1) := by decide +kernel
theorem dX5_power_8 : decode cX5_power 8 = .ok (.if_icmp .ge 13, 3) := by decide +kernel
theorem dX5_power_11 : decode cX5_power 11 = .ok (.lload_n 3, 1) := by decide +kernel
theorem dX5_power_12 : decode cX5_power 12 = .ok (.lload_n 0, 1) := by decide +kernel
theorem dX5_power_13 : decode cX5_power 13 = .ok (.lmul, 1) := by decide +kernel
theorem dX5_power_14 : decode cX5_power 14 = .ok (.lstore_n 3, 1) := by decide +kernel
theorem dX5_power_15 : decode cX5_power 15 = .ok (.iinc 5 1, 3) := by decide +kernel
theorem dX5_power_18 : decode cX5_power 18 = .ok (.goto (-13), 3) := by decide +kernel
theorem dX5_power_21 : decode cX5_power 21 = .ok (.lload_n 3, 1) := by decide +kernel
theorem dX5_power_22 : decode cX5_power 22 = .ok (.lreturn, 1) := by decide +kernel
theorem dX5_choices_0 : decode cX5_choices 0 = .ok (.lconst 1, 1) := by decide +kernel
theorem dX5_choices_1 : decode cX5_choices 1 = .ok (.lstore_n 2, 1) := by decide +kernel
theorem dX5_choices_2 : decode cX5_choices 2 = .ok (.iconst 0, 1) := by decide +kernel
theorem dX5_choices_3 : decode cX5_choices 3 = .ok (.istore 4, 2) := by decide +kernel
theorem dX5_choices_5 : decode cX5_choices 5 = .ok (.iload 4, 2) := by decide +kernel
theorem dX5_choices_7 : decode cX5_choices 7 = .ok (.iload_n 1, 1) := by decide +kernel
theorem dX5_choices_8 : decode cX5_choices 8 = .ok (.if_icmp .ge 23, 3) := by decide +kernel
theorem dX5_choices_11 : decode cX5_choices 11 = .ok (.lload_n 2, 1) := by decide +kernel
theorem dX5_choices_12 : decode cX5_choices 12 = .ok (.iload_n 0, 1) := by decide +kernel
theorem dX5_choices_13 : decode cX5_choices 13 = .ok (.iload 4, 2) := by decide +kernel
theorem dX5_choices_15 : decode cX5_choices 15 = .ok (.isub, 1) := by decide +kernel
theorem dX5_choices_16 : decode cX5_choices 16 = .ok (.i2l, 1) := by decide +kernel
theorem dX5_choices_17 : decode cX5_choices 17 = .ok (.lmul, 1) := by decide +kernel
theorem dX5_choices_18 : decode cX5_choices 18 = .ok (.iload 4, 2) := by decide +kernel
theorem dX5_choices_20 : decode cX5_choices 20 = .ok (.iconst 1, 1) := by decide +kernel
theorem dX5_choices_21 : decode cX5_choices 21 = .ok (.iadd, 1) := by decide +kernel
theorem dX5_choices_22 : decode cX5_choices 22 = .ok (.i2l, 1) := by decide +kernel
theorem dX5_choices_23 : decode cX5_choices 23 = .ok (.ldiv, 1) := by decide +kernel
theorem dX5_choices_24 : decode cX5_choices 24 = .ok (.lstore_n 2, 1) := by decide +kernel
theorem dX5_choices_25 : decode cX5_choices 25 = .ok (.iinc 4 1, 3) := by decide +kernel
theorem dX5_choices_28 : decode cX5_choices 28 = .ok (.goto (-23), 3) := by decide +kernel
theorem dX5_choices_31 : decode cX5_choices 31 = .ok (.lload_n 2, 1) := by decide +kernel
theorem dX5_choices_32 : decode cX5_choices 32 = .ok (.lreturn, 1) := by decide +kernel
theorem dX5_howMany_0 : decode cX5_howMany 0 = .ok (.iload_n 1, 1) := by decide +kernel
theorem dX5_howMany_1 : decode cX5_howMany 1 = .ok (.tableswitch 162 0 9 #[55, 63, 71, 82, 93, 107, 121, 132, 143, 154], 55) := by decide +kernel
theorem dX5_howMany_56 : decode cX5_howMany 56 = .ok (.aload_n 0, 1) := by decide +kernel
theorem dX5_howMany_57 : decode cX5_howMany 57 = .ok (.getfield 10, 3) := by decide +kernel
theorem dX5_howMany_60 : decode cX5_howMany 60 = .ok (.getfield 93, 3) := by decide +kernel
theorem dX5_howMany_63 : decode cX5_howMany 63 = .ok (.ireturn, 1) := by decide +kernel
theorem dX5_howMany_64 : decode cX5_howMany 64 = .ok (.aload_n 0, 1) := by decide +kernel
theorem dX5_howMany_65 : decode cX5_howMany 65 = .ok (.getfield 10, 3) := by decide +kernel
theorem dX5_howMany_68 : decode cX5_howMany 68 = .ok (.getfield 71, 3) := by decide +kernel
theorem dX5_howMany_71 : decode cX5_howMany 71 = .ok (.ireturn, 1) := by decide +kernel
theorem dX5_howMany_72 : decode cX5_howMany 72 = .ok (.aload_n 0, 1) := by decide +kernel
theorem dX5_howMany_73 : decode cX5_howMany 73 = .ok (.getfield 10, 3) := by decide +kernel
theorem dX5_howMany_76 : decode cX5_howMany 76 = .ok (.getfield 131, 3) := by decide +kernel
theorem dX5_howMany_79 : decode cX5_howMany 79 = .ok (.getfield 162, 3) := by decide +kernel
theorem dX5_howMany_82 : decode cX5_howMany 82 = .ok (.ireturn, 1) := by decide +kernel
theorem dX5_howMany_83 : decode cX5_howMany 83 = .ok (.aload_n 0, 1) := by decide +kernel
theorem dX5_howMany_84 : decode cX5_howMany 84 = .ok (.getfield 10, 3) := by decide +kernel
theorem dX5_howMany_87 : decode cX5_howMany 87 = .ok (.getfield 131, 3) := by decide +kernel
theorem dX5_howMany_90 : decode cX5_howMany 90 = .ok (.invokevirtual 327, 3) := by decide +kernel
theorem dX5_howMany_93 : decode cX5_howMany 93 = .ok (.ireturn, 1) := by decide +kernel
theorem dX5_howMany_94 : decode cX5_howMany 94 = .ok (.aload_n 0, 1) := by decide +kernel
theorem dX5_howMany_95 : decode cX5_howMany 95 = .ok (.getfield 10, 3) := by decide +kernel
theorem dX5_howMany_98 : decode cX5_howMany 98 = .ok (.getfield 131, 3) := by decide +kernel
theorem dX5_howMany_101 : decode cX5_howMany 101 = .ok (.getfield 174, 3) := by decide +kernel
theorem dX5_howMany_104 : decode cX5_howMany 104 = .ok (.invokestatic 330, 3) := by decide +kernel
theorem dX5_howMany_107 : decode cX5_howMany 107 = .ok (.ireturn, 1) := by decide +kernel
theorem dX5_howMany_108 : decode cX5_howMany 108 = .ok (.aload_n 0, 1) := by decide +kernel
theorem dX5_howMany_109 : decode cX5_howMany 109 = .ok (.getfield 10, 3) := by decide +kernel
theorem dX5_howMany_112 : decode cX5_howMany 112 = .ok (.getfield 131, 3) := by decide +kernel
theorem dX5_howMany_115 : decode cX5_howMany 115 = .ok (.getfield 334, 3) := by decide +kernel
theorem dX5_howMany_118 : decode cX5_howMany 118 = .ok (.invokestatic 330, 3) := by decide +kernel
theorem dX5_howMany_121 : decode cX5_howMany 121 = .ok (.ireturn, 1) := by decide +kernel
theorem dX5_howMany_122 : decode cX5_howMany 122 = .ok (.aload_n 0, 1) := by decide +kernel
theorem dX5_howMany_123 : decode cX5_howMany 123 = .ok (.getfield 10, 3) := by decide +kernel
theorem dX5_howMany_126 : decode cX5_howMany 126 = .ok (.getfield 221, 3) := by decide +kernel
theorem dX5_howMany_129 : decode cX5_howMany 129 = .ok (.getfield 257, 3) := by decide +kernel
theorem dX5_howMany_132 : decode cX5_howMany 132 = .ok (.ireturn, 1) := by decide +kernel
theorem dX5_howMany_133 : decode cX5_howMany 133 = .ok (.aload_n 0, 1) := by decide +kernel
theorem dX5_howMany_134 : decode cX5_howMany 134 = .ok (.getfield 10, 3) := by decide +kernel
theorem dX5_howMany_137 : decode cX5_howMany 137 = .ok (.getfield 251, 3) := by decide +kernel
theorem dX5_howMany_140 : decode cX5_howMany 140 = .ok (.getfield 257, 3) := by decide +kernel
theorem dX5_howMany_143 : decode cX5_howMany 143 = .ok (.ireturn, 1) := by decide +kernel
theorem dX5_howMany_144 : decode cX5_howMany 144 = .ok (.aload_n 0, 1) := by decide +kernel
theorem dX5_howMany_145 : decode cX5_howMany 145 = .ok (.getfield 10, 3) := by decide +kernel
theorem dX5_howMany_148 : decode cX5_howMany 148 = .ok (.getfield 254, 3) := by decide +kernel
theorem dX5_howMany_151 : decode cX5_howMany 151 = .ok (.getfield 257, 3) := by decide +kernel
theorem dX5_howMany_154 : decode cX5_howMany 154 = .ok (.ireturn, 1) := by decide +kernel
theorem dX5_howMany_155 : decode cX5_howMany 155 = .ok (.aload_n 0, 1) := by decide +kernel
theorem dX5_howMany_156 : decode cX5_howMany 156 = .ok (.getfield 10, 3) := by decide +kernel
theorem dX5_howMany_159 : decode cX5_howMany 159 = .ok (.getfield 156, 3) := by decide +kernel
theorem dX5_howMany_162 : decode cX5_howMany 162 = .ok (.ireturn, 1) := by decide +kernel
theorem dX5_howMany_163 : decode cX5_howMany 163 = .ok (.aload_n 0, 1) := by decide +kernel
theorem dX5_howMany_164 : decode cX5_howMany 164 = .ok (.getfield 37, 3) := by decide +kernel
theorem dX5_howMany_167 : decode cX5_howMany 167 = .ok (.getfield 104, 3) := by decide +kernel
theorem dX5_howMany_170 : decode cX5_howMany 170 = .ok (.ireturn, 1) := by decide +kernel
theorem dX5_sum_0 : decode cX5_sum 0 = .ok (.iconst 0, 1) := by decide +kernel
theorem dX5_sum_1 : decode cX5_sum 1 = .ok (.istore_n 1, 1) := by decide +kernel
theorem dX5_sum_2 : decode cX5_sum 2 = .ok (.aload_n 0, 1) := by decide +kernel
theorem dX5_sum_3 : decode cX5_sum 3 = .ok (.astore_n 2, 1) := by decide +kernel
theorem dX5_sum_4 : decode cX5_sum 4 = .ok (.aload_n 2, 1) := by decide +kernel
theorem dX5_sum_5 : decode cX5_sum 5 = .ok (.arraylength, 1) := by decide +kernel
theorem dX5_sum_6 : decode cX5_sum 6 = .ok (.istore_n 3, 1) := by decide +kernel
theorem dX5_sum_7 : decode cX5_sum 7 = .ok (.iconst 0, 1) := by decide +kernel
theorem dX5_sum_8 : decode cX5_sum 8 = .ok (.istore 4, 2) := by decide +kernel
theorem dX5_sum_10 : decode cX5_sum 10 = .ok (.iload 4, 2) := by decide +kernel
theorem dX5_sum_12 : decode cX5_sum 12 = .ok (.iload_n 3, 1) := by decide +kernel
theorem dX5_sum_13 : decode cX5_sum 13 = .ok (.if_icmp .ge 20, 3) := by decide +kernel
theorem dX5_sum_16 : decode cX5_sum 16 = .ok (.aload_n 2, 1) := by decide +kernel
theorem dX5_sum_17 : decode cX5_sum 17 = .ok (.iload 4, 2) := by decide +kernel
theorem dX5_sum_19 : decode cX5_sum 19 = .ok (.iaload, 1) := by decide +kernel
theorem dX5_sum_20 : decode cX5_sum 20 = .ok (.istore 5, 2) := by decide +kernel
theorem dX5_sum_22 : decode cX5_sum 22 = .ok (.iload_n 1, 1) := by decide +kernel
theorem dX5_sum_23 : decode cX5_sum 23 = .ok (.iload 5, 2) := by decide +kernel
theorem dX5_sum_25 : decode cX5_sum 25 = .ok (.iadd, 1) := by decide +kernel
theorem dX5_sum_26 : decode cX5_sum 26 = .ok (.istore_n 1, 1) := by decide +kernel
theorem dX5_sum_27 : decode cX5_sum 27 = .ok (.iinc 4 1, 3) := by decide +kernel
theorem dX5_sum_30 : decode cX5_sum 30 = .ok (.goto (-20), 3) := by decide +kernel
theorem dX5_sum_33 : decode cX5_sum 33 = .ok (.iload_n 1, 1) := by decide +kernel
theorem dX5_sum_34 : decode cX5_sum 34 = .ok (.ireturn, 1) := by decide +kernel
theorem dX5_fillOrder_0 : decode cX5_fillOrder 0 = .ok (.iload_n 2, 1) := by decide +kernel
theorem dX5_fillOrder_1 : decode cX5_fillOrder 1 = .ok (.aload_n 0, 1) := by decide +kernel
theorem dX5_fillOrder_2 : decode cX5_fillOrder 2 = .ok (.getfield 93, 3) := by decide +kernel
theorem dX5_fillOrder_5 : decode cX5_fillOrder 5 = .ok (.if_icmp .lt 5, 3) := by decide +kernel
theorem dX5_fillOrder_8 : decode cX5_fillOrder 8 = .ok (.iconst 1, 1) := by decide +kernel
theorem dX5_fillOrder_9 : decode cX5_fillOrder 9 = .ok (.ireturn, 1) := by decide +kernel
theorem dX5_fillOrder_10 : decode cX5_fillOrder 10 = .ok (.iconst 0, 1) := by decide +kernel
theorem dX5_fillOrder_11 : decode cX5_fillOrder 11 = .ok (.istore 4, 2) := by decide +kernel
theorem dX5_fillOrder_13 : decode cX5_fillOrder 13 = .ok (.iload 4, 2) := by decide +kernel
theorem dX5_fillOrder_15 : decode cX5_fillOrder 15 = .ok (.aload_n 0, 1) := by decide +kernel
theorem dX5_fillOrder_16 : decode cX5_fillOrder 16 = .ok (.getfield 93, 3) := by decide +kernel
theorem dX5_fillOrder_19 : decode cX5_fillOrder 19 = .ok (.if_icmp .ge 78, 3) := by decide +kernel
theorem dX5_fillOrder_22 : decode cX5_fillOrder 22 = .ok (.iload_n 2, 1) := by decide +kernel
theorem dX5_fillOrder_23 : decode cX5_fillOrder 23 = .ok (.ifCond .eq 23, 3) := by decide +kernel
theorem dX5_fillOrder_26 : decode cX5_fillOrder 26 = .ok (.aload_n 0, 1) := by decide +kernel
theorem dX5_fillOrder_27 : decode cX5_fillOrder 27 = .ok (.getfield 171, 3) := by decide +kernel
theorem dX5_fillOrder_30 : decode cX5_fillOrder 30 = .ok (.aload_n 1, 1) := by decide +kernel
theorem dX5_fillOrder_31 : decode cX5_fillOrder 31 = .ok (.iload_n 2, 1) := by decide +kernel
theorem dX5_fillOrder_32 : decode cX5_fillOrder 32 = .ok (.iconst 1, 1) := by decide +kernel
theorem dX5_fillOrder_33 : decode cX5_fillOrder 33 = .ok (.isub, 1) := by decide +kernel
theorem dX5_fillOrder_34 : decode cX5_fillOrder 34 = .ok (.iaload, 1) := by decide +kernel
theorem dX5_fillOrder_35 : decode cX5_fillOrder 35 = .ok (.iaload, 1) := by decide +kernel
theorem dX5_fillOrder_36 : decode cX5_fillOrder 36 = .ok (.aload_n 0, 1) := by decide +kernel
theorem dX5_fillOrder_37 : decode cX5_fillOrder 37 = .ok (.getfield 171, 3) := by decide +kernel
theorem dX5_fillOrder_40 : decode cX5_fillOrder 40 = .ok (.iload 4, 2) := by decide +kernel
theorem dX5_fillOrder_42 : decode cX5_fillOrder 42 = .ok (.iaload, 1) := by decide +kernel
theorem dX5_fillOrder_43 : decode cX5_fillOrder 43 = .ok (.if_icmp .eq 7, 3) := by decide +kernel
theorem dX5_fillOrder_46 : decode cX5_fillOrder 46 = .ok (.iconst 1, 1) := by decide +kernel
theorem dX5_fillOrder_47 : decode cX5_fillOrder 47 = .ok (.goto 4, 3) := by decide +kernel
theorem dX5_fillOrder_50 : decode cX5_fillOrder 50 = .ok (.iconst 0, 1) := by decide +kernel
theorem dX5_fillOrder_51 : decode cX5_fillOrder 51 = .ok (.istore 5, 2) := by decide +kernel
theorem dX5_fillOrder_53 : decode cX5_fillOrder 53 = .ok (.iload 5, 2) := by decide +kernel
theorem dX5_fillOrder_55 : decode cX5_fillOrder 55 = .ok (.ifCond .eq 36, 3) := by decide +kernel
theorem dX5_fillOrder_58 : decode cX5_fillOrder 58 = .ok (.iload_n 3, 1) := by decide +kernel
theorem dX5_fillOrder_59 : decode cX5_fillOrder 59 = .ok (.iload 4, 2) := by decide +kernel
theorem dX5_fillOrder_61 : decode cX5_fillOrder 61 = .ok (.ishr, 1) := by decide +kernel
theorem dX5_fillOrder_62 : decode cX5_fillOrder 62 = .ok (.iconst 1, 1) := by decide +kernel
theorem dX5_fillOrder_63 : decode cX5_fillOrder 63 = .ok (.iand, 1) := by decide +kernel
theorem dX5_fillOrder_64 : decode cX5_fillOrder 64 = .ok (.ifCond .ne 27, 3) := by decide +kernel
theorem dX5_fillOrder_67 : decode cX5_fillOrder 67 = .ok (.aload_n 1, 1) := by decide +kernel
theorem dX5_fillOrder_68 : decode cX5_fillOrder 68 = .ok (.iload_n 2, 1) := by decide +kernel
theorem dX5_fillOrder_69 : decode cX5_fillOrder 69 = .ok (.iload 4, 2) := by decide +kernel
theorem dX5_fillOrder_71 : decode cX5_fillOrder 71 = .ok (.iastore, 1) := by decide +kernel
theorem dX5_fillOrder_72 : decode cX5_fillOrder 72 = .ok (.aload_n 0, 1) := by decide +kernel
theorem dX5_fillOrder_73 : decode cX5_fillOrder 73 = .ok (.aload_n 1, 1) := by decide +kernel
theorem dX5_fillOrder_74 : decode cX5_fillOrder 74 = .ok (.iload_n 2, 1) := by decide +kernel
theorem dX5_fillOrder_75 : decode cX5_fillOrder 75 = .ok (.iconst 1, 1) := by decide +kernel
theorem dX5_fillOrder_76 : decode cX5_fillOrder 76 = .ok (.iadd, 1) := by decide +kernel
theorem dX5_fillOrder_77 : decode cX5_fillOrder 77 = .ok (.iload_n 3, 1) := by decide +kernel
theorem dX5_fillOrder_78 : decode cX5_fillOrder 78 = .ok (.iconst 1, 1) := by decide +kernel
theorem dX5_fillOrder_79 : decode cX5_fillOrder 79 = .ok (.iload 4, 2) := by decide +kernel
theorem dX5_fillOrder_81 : decode cX5_fillOrder 81 = .ok (.ishl, 1) := by decide +kernel
theorem dX5_fillOrder_82 : decode cX5_fillOrder 82 = .ok (.ior, 1) := by decide +kernel
theorem dX5_fillOrder_83 : decode cX5_fillOrder 83 = .ok (.invokestatic 239, 3) := by decide +kernel
theorem dX5_fillOrder_86 : decode cX5_fillOrder 86 = .ok (.ifCond .eq 5, 3) := by decide +kernel
theorem dX5_fillOrder_89 : decode cX5_fillOrder 89 = .ok (.iconst 1, 1) := by decide +kernel
theorem dX5_fillOrder_90 : decode cX5_fillOrder 90 = .ok (.ireturn, 1) := by decide +kernel
theorem dX5_fillOrder_91 : decode cX5_fillOrder 91 = .ok (.iinc 4 1, 3) := by decide +kernel
theorem dX5_fillOrder_94 : decode cX5_fillOrder 94 = .ok (.goto (-81), 3) := by decide +kernel
theorem dX5_fillOrder_97 : decode cX5_fillOrder 97 = .ok (.iconst 0, 1) := by decide +kernel
theorem dX5_fillOrder_98 : decode cX5_fillOrder 98 = .ok (.ireturn, 1) := by decide +kernel
theorem dX5_given_0 : decode cX5_given 0 = .ok (.iload_n 1, 1) := by decide +kernel
theorem dX5_given_1 : decode cX5_given 1 = .ok (.iconst 4, 1) := by decide +kernel
theorem dX5_given_2 : decode cX5_given 2 = .ok (.idiv, 1) := by decide +kernel
theorem dX5_given_3 : decode cX5_given 3 = .ok (.istore 4, 2) := by decide +kernel
theorem dX5_given_5 : decode cX5_given 5 = .ok (.iconst 2, 1) := by decide +kernel
theorem dX5_given_6 : decode cX5_given 6 = .ok (.iload 4, 2) := by decide +kernel
theorem dX5_given_8 : decode cX5_given 8 = .ok (.imul, 1) := by decide +kernel
theorem dX5_given_9 : decode cX5_given 9 = .ok (.istore 5, 2) := by decide +kernel
theorem dX5_given_11 : decode cX5_given 11 = .ok (.iload_n 0, 1) := by decide +kernel
theorem dX5_given_12 : decode cX5_given 12 = .ok (.tableswitch 67 2 5 #[32, 35, 44, 60], 32) := by decide +kernel
theorem dX5_given_44 : decode cX5_given 44 = .ok (.iload 5, 2) := by decide +kernel
theorem dX5_given_46 : decode cX5_given 46 = .ok (.ireturn, 1) := by decide +kernel
theorem dX5_given_47 : decode cX5_given 47 = .ok (.iload 4, 2) := by decide +kernel
theorem dX5_given_49 : decode cX5_given 49 = .ok (.iconst 2, 1) := by decide +kernel
theorem dX5_given_50 : decode cX5_given 50 = .ok (.isub, 1) := by decide +kernel
theorem dX5_given_51 : decode cX5_given 51 = .ok (.iconst 0, 1) := by decide +kernel
theorem dX5_given_52 : decode cX5_given 52 = .ok (.invokestatic 246, 3) := by decide +kernel
theorem dX5_given_55 : decode cX5_given 55 = .ok (.ireturn, 1) := by decide +kernel
theorem dX5_given_56 : decode cX5_given 56 = .ok (.iload_n 2, 1) := by decide +kernel
theorem dX5_given_57 : decode cX5_given 57 = .ok (.iconst 2, 1) := by decide +kernel
theorem dX5_given_58 : decode cX5_given 58 = .ok (.irem, 1) := by decide +kernel
theorem dX5_given_59 : decode cX5_given 59 = .ok (.ifCond .ne 8, 3) := by decide +kernel
theorem dX5_given_62 : decode cX5_given 62 = .ok (.iload 5, 2) := by decide +kernel
theorem dX5_given_64 : decode cX5_given 64 = .ok (.goto 7, 3) := by decide +kernel
theorem dX5_given_67 : decode cX5_given 67 = .ok (.iload 5, 2) := by decide +kernel
theorem dX5_given_69 : decode cX5_given 69 = .ok (.iconst 2, 1) := by decide +kernel
theorem dX5_given_70 : decode cX5_given 70 = .ok (.idiv, 1) := by decide +kernel
theorem dX5_given_71 : decode cX5_given 71 = .ok (.ireturn, 1) := by decide +kernel
theorem dX5_given_72 : decode cX5_given 72 = .ok (.iload 4, 2) := by decide +kernel
theorem dX5_given_74 : decode cX5_given 74 = .ok (.iload_n 3, 1) := by decide +kernel
theorem dX5_given_75 : decode cX5_given 75 = .ok (.iconst 5, 1) := by decide +kernel
theorem dX5_given_76 : decode cX5_given 76 = .ok (.idiv, 1) := by decide +kernel
theorem dX5_given_77 : decode cX5_given 77 = .ok (.iadd, 1) := by decide +kernel
theorem dX5_given_78 : decode cX5_given 78 = .ok (.ireturn, 1) := by decide +kernel
theorem dX5_given_79 : decode cX5_given 79 = .ok (.iload 4, 2) := by decide +kernel
theorem dX5_given_81 : decode cX5_given 81 = .ok (.ireturn, 1) := by decide +kernel
theorem dX5_worn_0 : decode cX5_worn 0 = .ok (.iload_n 1, 1) := by decide +kernel
theorem dX5_worn_1 : decode cX5_worn 1 = .ok (.iconst 3, 1) := by decide +kernel
theorem dX5_worn_2 : decode cX5_worn 2 = .ok (.idiv, 1) := by decide +kernel
theorem dX5_worn_3 : decode cX5_worn 3 = .ok (.istore_n 2, 1) := by decide +kernel
theorem dX5_worn_4 : decode cX5_worn 4 = .ok (.iload_n 0, 1) := by decide +kernel
theorem dX5_worn_5 : decode cX5_worn 5 = .ok (.tableswitch 45 1 5 #[35, 45, 39, 39, 43], 35) := by decide +kernel
theorem dX5_worn_40 : decode cX5_worn 40 = .ok (.iload_n 2, 1) := by decide +kernel
theorem dX5_worn_41 : decode cX5_worn 41 = .ok (.iconst 2, 1) := by decide +kernel
theorem dX5_worn_42 : decode cX5_worn 42 = .ok (.idiv, 1) := by decide +kernel
theorem dX5_worn_43 : decode cX5_worn 43 = .ok (.ireturn, 1) := by decide +kernel
theorem dX5_worn_44 : decode cX5_worn 44 = .ok (.iload_n 2, 1) := by decide +kernel
theorem dX5_worn_45 : decode cX5_worn 45 = .ok (.iconst 1, 1) := by decide +kernel
theorem dX5_worn_46 : decode cX5_worn 46 = .ok (.iadd, 1) := by decide +kernel
theorem dX5_worn_47 : decode cX5_worn 47 = .ok (.ireturn, 1) := by decide +kernel
theorem dX5_worn_48 : decode cX5_worn 48 = .ok (.iconst 0, 1) := by decide +kernel
theorem dX5_worn_49 : decode cX5_worn 49 = .ok (.ireturn, 1) := by decide +kernel
theorem dX5_worn_50 : decode cX5_worn 50 = .ok (.iload_n 2, 1) := by decide +kernel
theorem dX5_worn_51 : decode cX5_worn 51 = .ok (.ireturn, 1) := by decide +kernel
theorem dX5_accepted_0 : decode cX5_accepted 0 = .ok (.iload_n 1, 1) := by decide +kernel
theorem dX5_accepted_1 : decode cX5_accepted 1 = .ok (.iconst 2, 1) := by decide +kernel
theorem dX5_accepted_2 : decode cX5_accepted 2 = .ok (.idiv, 1) := by decide +kernel
theorem dX5_accepted_3 : decode cX5_accepted 3 = .ok (.istore_n 3, 1) := by decide +kernel
theorem dX5_accepted_4 : decode cX5_accepted 4 = .ok (.iload_n 1, 1) := by decide +kernel
theorem dX5_accepted_5 : decode cX5_accepted 5 = .ok (.iconst 1, 1) := by decide +kernel
theorem dX5_accepted_6 : decode cX5_accepted 6 = .ok (.if_icmp .lt 9, 3) := by decide +kernel
theorem dX5_accepted_9 : decode cX5_accepted 9 = .ok (.iload_n 1, 1) := by decide +kernel
theorem dX5_accepted_10 : decode cX5_accepted 10 = .ok (.iconst 1, 1) := by decide +kernel
theorem dX5_accepted_11 : decode cX5_accepted 11 = .ok (.iadd, 1) := by decide +kernel
theorem dX5_accepted_12 : decode cX5_accepted 12 = .ok (.goto 4, 3) := by decide +kernel
theorem dX5_accepted_15 : decode cX5_accepted 15 = .ok (.iload_n 1, 1) := by decide +kernel
theorem dX5_accepted_16 : decode cX5_accepted 16 = .ok (.istore 4, 2) := by decide +kernel
theorem dX5_accepted_18 : decode cX5_accepted 18 = .ok (.iload_n 0, 1) := by decide +kernel
theorem dX5_accepted_19 : decode cX5_accepted 19 = .ok (.tableswitch 63 1 5 #[33, 35, 38, 40, 53], 33) := by decide +kernel
theorem dX5_accepted_52 : decode cX5_accepted 52 = .ok (.iload_n 3, 1) := by decide +kernel
theorem dX5_accepted_53 : decode cX5_accepted 53 = .ok (.ireturn, 1) := by decide +kernel
theorem dX5_accepted_54 : decode cX5_accepted 54 = .ok (.iload 4, 2) := by decide +kernel
theorem dX5_accepted_56 : decode cX5_accepted 56 = .ok (.ireturn, 1) := by decide +kernel
theorem dX5_accepted_57 : decode cX5_accepted 57 = .ok (.iconst 0, 1) := by decide +kernel
theorem dX5_accepted_58 : decode cX5_accepted 58 = .ok (.ireturn, 1) := by decide +kernel
theorem dX5_accepted_59 : decode cX5_accepted 59 = .ok (.iload_n 2, 1) := by decide +kernel
theorem dX5_accepted_60 : decode cX5_accepted 60 = .ok (.bipush 20, 2) := by decide +kernel
theorem dX5_accepted_62 : decode cX5_accepted 62 = .ok (.if_icmp .lt 7, 3) := by decide +kernel
theorem dX5_accepted_65 : decode cX5_accepted 65 = .ok (.iconst 0, 1) := by decide +kernel
theorem dX5_accepted_66 : decode cX5_accepted 66 = .ok (.goto 5, 3) := by decide +kernel
theorem dX5_accepted_69 : decode cX5_accepted 69 = .ok (.iload 4, 2) := by decide +kernel
theorem dX5_accepted_71 : decode cX5_accepted 71 = .ok (.ireturn, 1) := by decide +kernel
theorem dX5_accepted_72 : decode cX5_accepted 72 = .ok (.iload_n 2, 1) := by decide +kernel
theorem dX5_accepted_73 : decode cX5_accepted 73 = .ok (.ifCond .ne 7, 3) := by decide +kernel
theorem dX5_accepted_76 : decode cX5_accepted 76 = .ok (.iload_n 1, 1) := by decide +kernel
theorem dX5_accepted_77 : decode cX5_accepted 77 = .ok (.goto 4, 3) := by decide +kernel
theorem dX5_accepted_80 : decode cX5_accepted 80 = .ok (.iload_n 3, 1) := by decide +kernel
theorem dX5_accepted_81 : decode cX5_accepted 81 = .ok (.ireturn, 1) := by decide +kernel
theorem dX5_accepted_82 : decode cX5_accepted 82 = .ok (.iload_n 1, 1) := by decide +kernel
theorem dX5_accepted_83 : decode cX5_accepted 83 = .ok (.ireturn, 1) := by decide +kernel
theorem dX5_heavy_0 : decode cX5_heavy 0 = .ok (.iload_n 0, 1) := by decide +kernel
theorem dX5_heavy_1 : decode cX5_heavy 1 = .ok (.tableswitch 45 2 5 #[31, 37, 31, 41], 31) := by decide +kernel
theorem dX5_heavy_32 : decode cX5_heavy 32 = .ok (.iload_n 1, 1) := by decide +kernel
theorem dX5_heavy_33 : decode cX5_heavy 33 = .ok (.iconst 1, 1) := by decide +kernel
theorem dX5_heavy_34 : decode cX5_heavy 34 = .ok (.iadd, 1) := by decide +kernel
theorem dX5_heavy_35 : decode cX5_heavy 35 = .ok (.iconst 2, 1) := by decide +kernel
theorem dX5_heavy_36 : decode cX5_heavy 36 = .ok (.idiv, 1) := by decide +kernel
theorem dX5_heavy_37 : decode cX5_heavy 37 = .ok (.ireturn, 1) := by decide +kernel
theorem dX5_heavy_38 : decode cX5_heavy 38 = .ok (.iconst 2, 1) := by decide +kernel
theorem dX5_heavy_39 : decode cX5_heavy 39 = .ok (.iload_n 1, 1) := by decide +kernel
theorem dX5_heavy_40 : decode cX5_heavy 40 = .ok (.imul, 1) := by decide +kernel
theorem dX5_heavy_41 : decode cX5_heavy 41 = .ok (.ireturn, 1) := by decide +kernel
theorem dX5_heavy_42 : decode cX5_heavy 42 = .ok (.iload_n 1, 1) := by decide +kernel
theorem dX5_heavy_43 : decode cX5_heavy 43 = .ok (.iconst 1, 1) := by decide +kernel
theorem dX5_heavy_44 : decode cX5_heavy 44 = .ok (.iadd, 1) := by decide +kernel
theorem dX5_heavy_45 : decode cX5_heavy 45 = .ok (.ireturn, 1) := by decide +kernel
theorem dX5_heavy_46 : decode cX5_heavy 46 = .ok (.iload_n 1, 1) := by decide +kernel
theorem dX5_heavy_47 : decode cX5_heavy 47 = .ok (.ireturn, 1) := by decide +kernel
theorem dX6_init_0 : decode cX6_init 0 = .ok (.aload_n 0, 1) := by decide +kernel
theorem dX6_init_1 : decode cX6_init 1 = .ok (.invokespecial 1, 3) := by decide +kernel
theorem dX6_init_4 : decode cX6_init 4 = .ok (.aload_n 0, 1) := by decide +kernel
theorem dX6_init_5 : decode cX6_init 5 = .ok (.sipush 399, 3) := by decide +kernel
theorem dX6_init_8 : decode cX6_init 8 = .ok (.newarray .int, 2) := by decide +kernel
theorem dX6_init_10 : decode cX6_init 10 = .ok (.putfield 7, 3) := by decide +kernel
theorem dX6_init_13 : decode cX6_init 13 = .ok (.aload_n 0, 1) := by decide +kernel
theorem dX6_init_14 : decode cX6_init 14 = .ok (.sipush 399, 3) := by decide +kernel
theorem dX6_init_17 : decode cX6_init 17 = .ok (.newarray .int, 2) := by decide +kernel
theorem dX6_init_19 : decode cX6_init 19 = .ok (.putfield 13, 3) := by decide +kernel
theorem dX6_init_22 : decode cX6_init 22 = .ok (.aload_n 0, 1) := by decide +kernel
theorem dX6_init_23 : decode cX6_init 23 = .ok (.bipush 33, 2) := by decide +kernel
theorem dX6_init_25 : decode cX6_init 25 = .ok (.newarray .int, 2) := by decide +kernel
theorem dX6_init_27 : decode cX6_init 27 = .ok (.putfield 16, 3) := by decide +kernel
theorem dX6_init_30 : decode cX6_init 30 = .ok (.aload_n 0, 1) := by decide +kernel
theorem dX6_init_31 : decode cX6_init 31 = .ok (.sipush 798, 3) := by decide +kernel
theorem dX6_init_34 : decode cX6_init 34 = .ok (.newarray .int, 2) := by decide +kernel
theorem dX6_init_36 : decode cX6_init 36 = .ok (.putfield 19, 3) := by decide +kernel
theorem dX6_init_39 : decode cX6_init 39 = .ok (.aload_n 0, 1) := by decide +kernel
theorem dX6_init_40 : decode cX6_init 40 = .ok (.iconst 2, 1) := by decide +kernel
theorem dX6_init_41 : decode cX6_init 41 = .ok (.newarray .boolean, 2) := by decide +kernel
theorem dX6_init_43 : decode cX6_init 43 = .ok (.putfield 22, 3) := by decide +kernel
theorem dX6_init_46 : decode cX6_init 46 = .ok (.aload_n 0, 1) := by decide +kernel
theorem dX6_init_47 : decode cX6_init 47 = .ok (.sipush 150, 3) := by decide +kernel
theorem dX6_init_50 : decode cX6_init 50 = .ok (.newarray .int, 2) := by decide +kernel
theorem dX6_init_52 : decode cX6_init 52 = .ok (.putfield 26, 3) := by decide +kernel
theorem dX6_init_55 : decode cX6_init 55 = .ok (.aload_n 0, 1) := by decide +kernel
theorem dX6_init_56 : decode cX6_init 56 = .ok (.lconst 1, 1) := by decide +kernel
theorem dX6_init_57 : decode cX6_init 57 = .ok (.putfield 29, 3) := by decide +kernel
theorem dX6_init_60 : decode cX6_init 60 = .ok (.aload_n 0, 1) := by decide +kernel
theorem dX6_init_61 : decode cX6_init 61 = .ok (.iconst 3, 1) := by decide +kernel
theorem dX6_init_62 : decode cX6_init 62 = .ok (.newarray .int, 2) := by decide +kernel
theorem dX6_init_64 : decode cX6_init 64 = .ok (.putfield 33, 3) := by decide +kernel
theorem dX6_init_67 : decode cX6_init 67 = .ok (.aload_n 0, 1) := by decide +kernel
theorem dX6_init_68 : decode cX6_init 68 = .ok (.bipush 40, 2) := by decide +kernel
theorem dX6_init_70 : decode cX6_init 70 = .ok (.newarray .int, 2) := by decide +kernel
theorem dX6_init_72 : decode cX6_init 72 = .ok (.putfield 36, 3) := by decide +kernel
theorem dX6_init_75 : decode cX6_init 75 = .ok (.aload_n 0, 1) := by decide +kernel
theorem dX6_init_76 : decode cX6_init 76 = .ok (.bipush 7, 2) := by decide +kernel
theorem dX6_init_78 : decode cX6_init 78 = .ok (.newarray .int, 2) := by decide +kernel
theorem dX6_init_80 : decode cX6_init 80 = .ok (.putfield 39, 3) := by decide +kernel
theorem dX6_init_83 : decode cX6_init 83 = .ok (.aload_n 0, 1) := by decide +kernel
theorem dX6_init_84 : decode cX6_init 84 = .ok (.bipush 7, 2) := by decide +kernel
theorem dX6_init_86 : decode cX6_init 86 = .ok (.newarray .int, 2) := by decide +kernel
theorem dX6_init_88 : decode cX6_init 88 = .ok (.putfield 42, 3) := by decide +kernel
theorem dX6_init_91 : decode cX6_init 91 = .ok (.aload_n 0, 1) := by decide +kernel
theorem dX6_init_92 : decode cX6_init 92 = .ok (.bipush 120, 2) := by decide +kernel
theorem dX6_init_94 : decode cX6_init 94 = .ok (.newarray .int, 2) := by decide +kernel
theorem dX6_init_96 : decode cX6_init 96 = .ok (.putfield 45, 3) := by decide +kernel
theorem dX6_init_99 : decode cX6_init 99 = .ok (.aload_n 0, 1) := by decide +kernel
theorem dX6_init_100 : decode cX6_init 100 = .ok (.getfield 7, 3) := by decide +kernel
theorem dX6_init_103 : decode cX6_init 103 = .ok (.invokestatic 48, 3) := by decide +kernel
theorem dX6_init_106 : decode cX6_init 106 = .ok (.return_, 1) := by decide +kernel
theorem dX6_in_0 : decode cX6_in 0 = .ok (.lload_n 0, 1) := by decide +kernel
theorem dX6_in_1 : decode cX6_in 1 = .ok (.lload_n 2, 1) := by decide +kernel
theorem dX6_in_2 : decode cX6_in 2 = .ok (.lcmp, 1) := by decide +kernel
theorem dX6_in_3 : decode cX6_in 3 = .ok (.ifCond .lt 14, 3) := by decide +kernel
theorem dX6_in_6 : decode cX6_in 6 = .ok (.lload_n 0, 1) := by decide +kernel
theorem dX6_in_7 : decode cX6_in 7 = .ok (.lload 4, 2) := by decide +kernel
theorem dX6_in_9 : decode cX6_in 9 = .ok (.lcmp, 1) := by decide +kernel
theorem dX6_in_10 : decode cX6_in 10 = .ok (.ifCond .gt 7, 3) := by decide +kernel
theorem dX6_in_13 : decode cX6_in 13 = .ok (.iconst 1, 1) := by decide +kernel
theorem dX6_in_14 : decode cX6_in 14 = .ok (.goto 4, 3) := by decide +kernel
theorem dX6_in_17 : decode cX6_in 17 = .ok (.iconst 0, 1) := by decide +kernel
theorem dX6_in_18 : decode cX6_in 18 = .ok (.ireturn, 1) := by decide +kernel
theorem dX6_has_0 : decode cX6_has 0 = .ok (.iload_n 0, 1) := by decide +kernel
theorem dX6_has_1 : decode cX6_has 1 = .ok (.iload_n 1, 1) := by decide +kernel
theorem dX6_has_2 : decode cX6_has 2 = .ok (.ishr, 1) := by decide +kernel
theorem dX6_has_3 : decode cX6_has 3 = .ok (.iconst 1, 1) := by decide +kernel
theorem dX6_has_4 : decode cX6_has 4 = .ok (.iand, 1) := by decide +kernel
theorem dX6_has_5 : decode cX6_has 5 = .ok (.iconst 1, 1) := by decide +kernel
theorem dX6_has_6 : decode cX6_has 6 = .ok (.if_icmp .ne 7, 3) := by decide +kernel
theorem dX6_has_9 : decode cX6_has 9 = .ok (.iconst 1, 1) := by decide +kernel
theorem dX6_has_10 : decode cX6_has 10 = .ok (.goto 4, 3) := by decide +kernel
theorem dX6_has_13 : decode cX6_has 13 = .ok (.iconst 0, 1) := by decide +kernel
theorem dX6_has_14 : decode cX6_has 14 = .ok (.ireturn, 1) := by decide +kernel
theorem dX6_copies_0 : decode cX6_copies 0 = .ok (.iconst 0, 1) := by decide +kernel
theorem dX6_copies_1 : decode cX6_copies 1 = .ok (.istore 5, 2) := by decide +kernel
theorem dX6_copies_3 : decode cX6_copies 3 = .ok (.iload 5, 2) := by decide +kernel
theorem dX6_copies_5 : decode cX6_copies 5 = .ok (.iload 4, 2) := by decide +kernel
theorem dX6_copies_7 : decode cX6_copies 7 = .ok (.if_icmp .ge 21, 3) := by decide +kernel
theorem dX6_copies_10 : decode cX6_copies 10 = .ok (.aload_n 2, 1) := by decide +kernel
theorem dX6_copies_11 : decode cX6_copies 11 = .ok (.iload_n 3, 1) := by decide +kernel
theorem dX6_copies_12 : decode cX6_copies 12 = .ok (.iload 5, 2) := by decide +kernel
theorem dX6_copies_14 : decode cX6_copies 14 = .ok (.iadd, 1) := by decide +kernel
theorem dX6_copies_15 : decode cX6_copies 15 = .ok (.aload_n 0, 1) := by decide +kernel
theorem dX6_copies_16 : decode cX6_copies 16 = .ok (.iload_n 1, 1) := by decide +kernel
theorem dX6_copies_17 : decode cX6_copies 17 = .ok (.iload 5, 2) := by decide +kernel
theorem dX6_copies_19 : decode cX6_copies 19 = .ok (.iadd, 1) := by decide +kernel
theorem dX6_copies_20 : decode cX6_copies 20 = .ok (.iaload, 1) := by decide +kernel
theorem dX6_copies_21 : decode cX6_copies 21 = .ok (.iastore, 1) := by decide +kernel
theorem dX6_copies_22 : decode cX6_copies 22 = .ok (.iinc 5 1, 3) := by decide +kernel
theorem dX6_copies_25 : decode cX6_copies 25 = .ok (.goto (-22), 3) := by decide +kernel
theorem dX6_copies_28 : decode cX6_copies 28 = .ok (.return_, 1) := by decide +kernel
theorem dX6_refused_0 : decode cX6_refused 0 = .ok (.aload_n 0, 1) := by decide +kernel
theorem dX6_refused_1 : decode cX6_refused 1 = .ok (.getfield 33, 3) := by decide +kernel
theorem dX6_refused_4 : decode cX6_refused 4 = .ok (.iload_n 1, 1) := by decide +kernel
theorem dX6_refused_5 : decode cX6_refused 5 = .ok (.dup2, 1) := by decide +kernel
theorem dX6_refused_6 : decode cX6_refused 6 = .ok (.iaload, 1) := by decide +kernel
theorem dX6_refused_7 : decode cX6_refused 7 = .ok (.iconst 1, 1) := by decide +kernel
theorem dX6_refused_8 : decode cX6_refused 8 = .ok (.iadd, 1) := by decide +kernel
theorem dX6_refused_9 : decode cX6_refused 9 = .ok (.iastore, 1) := by decide +kernel
theorem dX6_refused_10 : decode cX6_refused 10 = .ok (.iload_n 2, 1) := by decide +kernel
theorem dX6_refused_11 : decode cX6_refused 11 = .ok (.ireturn, 1) := by decide +kernel
theorem dX6_bad_0 : decode cX6_bad 0 = .ok (.aload_n 0, 1) := by decide +kernel
theorem dX6_bad_1 : decode cX6_bad 1 = .ok (.iconst 0, 1) := by decide +kernel
theorem dX6_bad_2 : decode cX6_bad 2 = .ok (.bipush (-2), 2) := by decide +kernel
theorem dX6_bad_4 : decode cX6_bad 4 = .ok (.invokevirtual 52, 3) := by decide +kernel
theorem dX6_bad_7 : decode cX6_bad 7 = .ok (.ireturn, 1) := by decide +kernel
theorem dX6_badTen_0 : decode cX6_badTen 0 = .ok (.aload_n 0, 1) := by decide +kernel
theorem dX6_badTen_1 : decode cX6_badTen 1 = .ok (.iconst 0, 1) := by decide +kernel
theorem dX6_badTen_2 : decode cX6_badTen 2 = .ok (.bipush (-10), 2) := by decide +kernel
theorem dX6_badTen_4 : decode cX6_badTen 4 = .ok (.invokevirtual 52, 3) := by decide +kernel
theorem dX6_badTen_7 : decode cX6_badTen 7 = .ok (.ireturn, 1) := by decide +kernel
theorem dX6_empties_0 : decode cX6_empties 0 = .ok (.iconst 0, 1) := by decide +kernel
theorem dX6_empties_1 : decode cX6_empties 1 = .ok (.istore_n 1, 1) := by decide +kernel
theorem dX6_empties_2 : decode cX6_empties 2 = .ok (.iload_n 1, 1) := by decide +kernel
theorem dX6_empties_3 : decode cX6_empties 3 = .ok (.sipush 399, 3) := by decide +kernel
theorem dX6_empties_6 : decode cX6_empties 6 = .ok (.if_icmp .ge 13, 3) := by decide +kernel
theorem dX6_empties_9 : decode cX6_empties 9 = .ok (.aload_n 0, 1) := by decide +kernel
theorem dX6_empties_10 : decode cX6_empties 10 = .ok (.iload_n 1, 1) := by decide +kernel
theorem dX6_empties_11 : decode cX6_empties 11 = .ok (.iconst 0, 1) := by decide +kernel
theorem dX6_empties_12 : decode cX6_empties 12 = .ok (.iastore, 1) := by decide +kernel
theorem dX6_empties_13 : decode cX6_empties 13 = .ok (.iinc 1 1, 3) := by decide +kernel
theorem dX6_empties_16 : decode cX6_empties 16 = .ok (.goto (-14), 3) := by decide +kernel
theorem dX6_empties_19 : decode cX6_empties 19 = .ok (.iconst 0, 1) := by decide +kernel
theorem dX6_empties_20 : decode cX6_empties 20 = .ok (.istore_n 1, 1) := by decide +kernel
theorem dX6_empties_21 : decode cX6_empties 21 = .ok (.iload_n 1, 1) := by decide +kernel
theorem dX6_empties_22 : decode cX6_empties 22 = .ok (.iconst 5, 1) := by decide +kernel
theorem dX6_empties_23 : decode cX6_empties 23 = .ok (.if_icmp .ge 15, 3) := by decide +kernel
theorem dX6_empties_26 : decode cX6_empties 26 = .ok (.aload_n 0, 1) := by decide +kernel
theorem dX6_empties_27 : decode cX6_empties 27 = .ok (.iconst 0, 1) := by decide +kernel
theorem dX6_empties_28 : decode cX6_empties 28 = .ok (.iload_n 1, 1) := by decide +kernel
theorem dX6_empties_29 : decode cX6_empties 29 = .ok (.iadd, 1) := by decide +kernel
theorem dX6_empties_30 : decode cX6_empties 30 = .ok (.iconst (-1), 1) := by decide +kernel
theorem dX6_empties_31 : decode cX6_empties 31 = .ok (.iastore, 1) := by decide +kernel
theorem dX6_empties_32 : decode cX6_empties 32 = .ok (.iinc 1 1, 3) := by decide +kernel
theorem dX6_empties_35 : decode cX6_empties 35 = .ok (.goto (-14), 3) := by decide +kernel
theorem dX6_empties_38 : decode cX6_empties 38 = .ok (.return_, 1) := by decide +kernel
theorem dX6_gives_0 : decode cX6_gives 0 = .ok (.iload_n 1, 1) := by decide +kernel
theorem dX6_gives_1 : decode cX6_gives 1 = .ok (.iconst 4, 1) := by decide +kernel
theorem dX6_gives_2 : decode cX6_gives 2 = .ok (.idiv, 1) := by decide +kernel
theorem dX6_gives_3 : decode cX6_gives 3 = .ok (.istore 4, 2) := by decide +kernel
theorem dX6_gives_5 : decode cX6_gives 5 = .ok (.iload_n 0, 1) := by decide +kernel
theorem dX6_gives_6 : decode cX6_gives 6 = .ok (.tableswitch 73 2 5 #[30, 35, 50, 66], 30) := by decide +kernel
theorem dX6_gives_36 : decode cX6_gives 36 = .ok (.iconst 2, 1) := by decide +kernel
theorem dX6_gives_37 : decode cX6_gives 37 = .ok (.iload 4, 2) := by decide +kernel
theorem dX6_gives_39 : decode cX6_gives 39 = .ok (.imul, 1) := by decide +kernel
theorem dX6_gives_40 : decode cX6_gives 40 = .ok (.ireturn, 1) := by decide +kernel
theorem dX6_gives_41 : decode cX6_gives 41 = .ok (.iload 4, 2) := by decide +kernel
theorem dX6_gives_43 : decode cX6_gives 43 = .ok (.iconst 2, 1) := by decide +kernel
theorem dX6_gives_44 : decode cX6_gives 44 = .ok (.if_icmp .ge 7, 3) := by decide +kernel
theorem dX6_gives_47 : decode cX6_gives 47 = .ok (.iconst 0, 1) := by decide +kernel
theorem dX6_gives_48 : decode cX6_gives 48 = .ok (.goto 7, 3) := by decide +kernel
theorem dX6_gives_51 : decode cX6_gives 51 = .ok (.iload 4, 2) := by decide +kernel
theorem dX6_gives_53 : decode cX6_gives 53 = .ok (.iconst 2, 1) := by decide +kernel
theorem dX6_gives_54 : decode cX6_gives 54 = .ok (.isub, 1) := by decide +kernel
theorem dX6_gives_55 : decode cX6_gives 55 = .ok (.ireturn, 1) := by decide +kernel
theorem dX6_gives_56 : decode cX6_gives 56 = .ok (.iload_n 3, 1) := by decide +kernel
theorem dX6_gives_57 : decode cX6_gives 57 = .ok (.iconst 2, 1) := by decide +kernel
theorem dX6_gives_58 : decode cX6_gives 58 = .ok (.irem, 1) := by decide +kernel
theorem dX6_gives_59 : decode cX6_gives 59 = .ok (.ifCond .ne 10, 3) := by decide +kernel
theorem dX6_gives_62 : decode cX6_gives 62 = .ok (.iconst 2, 1) := by decide +kernel
theorem dX6_gives_63 : decode cX6_gives 63 = .ok (.iload 4, 2) := by decide +kernel
theorem dX6_gives_65 : decode cX6_gives 65 = .ok (.imul, 1) := by decide +kernel
theorem dX6_gives_66 : decode cX6_gives 66 = .ok (.goto 5, 3) := by decide +kernel
theorem dX6_gives_69 : decode cX6_gives 69 = .ok (.iload 4, 2) := by decide +kernel
theorem dX6_gives_71 : decode cX6_gives 71 = .ok (.ireturn, 1) := by decide +kernel
theorem dX6_gives_72 : decode cX6_gives 72 = .ok (.iload 4, 2) := by decide +kernel
theorem dX6_gives_74 : decode cX6_gives 74 = .ok (.iload_n 2, 1) := by decide +kernel
theorem dX6_gives_75 : decode cX6_gives 75 = .ok (.iconst 5, 1) := by decide +kernel
theorem dX6_gives_76 : decode cX6_gives 76 = .ok (.idiv, 1) := by decide +kernel
theorem dX6_gives_77 : decode cX6_gives 77 = .ok (.iadd, 1) := by decide +kernel
theorem dX6_gives_78 : decode cX6_gives 78 = .ok (.ireturn, 1) := by decide +kernel
theorem dX6_gives_79 : decode cX6_gives 79 = .ok (.iload 4, 2) := by decide +kernel
theorem dX6_gives_81 : decode cX6_gives 81 = .ok (.ireturn, 1) := by decide +kernel
theorem dX6_worn_0 : decode cX6_worn 0 = .ok (.iload_n 1, 1) := by decide +kernel
theorem dX6_worn_1 : decode cX6_worn 1 = .ok (.iconst 3, 1) := by decide +kernel
theorem dX6_worn_2 : decode cX6_worn 2 = .ok (.idiv, 1) := by decide +kernel
theorem dX6_worn_3 : decode cX6_worn 3 = .ok (.istore_n 2, 1) := by decide +kernel
theorem dX6_worn_4 : decode cX6_worn 4 = .ok (.iload_n 0, 1) := by decide +kernel
theorem dX6_worn_5 : decode cX6_worn 5 = .ok (.tableswitch 45 1 5 #[35, 45, 39, 39, 43], 35) := by decide +kernel
theorem dX6_worn_40 : decode cX6_worn 40 = .ok (.iload_n 2, 1) := by decide +kernel
theorem dX6_worn_41 : decode cX6_worn 41 = .ok (.iconst 2, 1) := by decide +kernel
theorem dX6_worn_42 : decode cX6_worn 42 = .ok (.idiv, 1) := by decide +kernel
theorem dX6_worn_43 : decode cX6_worn 43 = .ok (.ireturn, 1) := by decide +kernel
theorem dX6_worn_44 : decode cX6_worn 44 = .ok (.iload_n 2, 1) := by decide +kernel
theorem dX6_worn_45 : decode cX6_worn 45 = .ok (.iconst 1, 1) := by decide +kernel
theorem dX6_worn_46 : decode cX6_worn 46 = .ok (.iadd, 1) := by decide +kernel
theorem dX6_worn_47 : decode cX6_worn 47 = .ok (.ireturn, 1) := by decide +kernel
theorem dX6_worn_48 : decode cX6_worn 48 = .ok (.iconst 0, 1) := by decide +kernel
theorem dX6_worn_49 : decode cX6_worn 49 = .ok (.ireturn, 1) := by decide +kernel
theorem dX6_worn_50 : decode cX6_worn 50 = .ok (.iload_n 2, 1) := by decide +kernel
theorem dX6_worn_51 : decode cX6_worn 51 = .ok (.ireturn, 1) := by decide +kernel
theorem dX6_takesOf_0 : decode cX6_takesOf 0 = .ok (.iload_n 1, 1) := by decide +kernel
theorem dX6_takesOf_1 : decode cX6_takesOf 1 = .ok (.ifCond .le 9, 3) := by decide +kernel
theorem dX6_takesOf_4 : decode cX6_takesOf 4 = .ok (.iload_n 1, 1) := by decide +kernel
theorem dX6_takesOf_5 : decode cX6_takesOf 5 = .ok (.iconst 1, 1) := by decide +kernel
theorem dX6_takesOf_6 : decode cX6_takesOf 6 = .ok (.iadd, 1) := by decide +kernel
theorem dX6_takesOf_7 : decode cX6_takesOf 7 = .ok (.goto 4, 3) := by decide +kernel
theorem dX6_takesOf_10 : decode cX6_takesOf 10 = .ok (.iload_n 1, 1) := by decide +kernel
theorem dX6_takesOf_11 : decode cX6_takesOf 11 = .ok (.istore_n 3, 1) := by decide +kernel
theorem dX6_takesOf_12 : decode cX6_takesOf 12 = .ok (.iload_n 0, 1) := by decide +kernel
theorem dX6_takesOf_13 : decode cX6_takesOf 13 = .ok (.tableswitch 67 1 5 #[35, 39, 41, 43, 55], 35) := by decide +kernel
theorem dX6_takesOf_48 : decode cX6_takesOf 48 = .ok (.iload_n 1, 1) := by decide +kernel
theorem dX6_takesOf_49 : decode cX6_takesOf 49 = .ok (.iconst 2, 1) := by decide +kernel
theorem dX6_takesOf_50 : decode cX6_takesOf 50 = .ok (.idiv, 1) := by decide +kernel
theorem dX6_takesOf_51 : decode cX6_takesOf 51 = .ok (.ireturn, 1) := by decide +kernel
theorem dX6_takesOf_52 : decode cX6_takesOf 52 = .ok (.iload_n 3, 1) := by decide +kernel
theorem dX6_takesOf_53 : decode cX6_takesOf 53 = .ok (.ireturn, 1) := by decide +kernel
theorem dX6_takesOf_54 : decode cX6_takesOf 54 = .ok (.iconst 0, 1) := by decide +kernel
theorem dX6_takesOf_55 : decode cX6_takesOf 55 = .ok (.ireturn, 1) := by decide +kernel
theorem dX6_takesOf_56 : decode cX6_takesOf 56 = .ok (.iload_n 2, 1) := by decide +kernel
theorem dX6_takesOf_57 : decode cX6_takesOf 57 = .ok (.bipush 19, 2) := by decide +kernel
theorem dX6_takesOf_59 : decode cX6_takesOf 59 = .ok (.if_icmp .le 7, 3) := by decide +kernel
theorem dX6_takesOf_62 : decode cX6_takesOf 62 = .ok (.iconst 0, 1) := by decide +kernel
theorem dX6_takesOf_63 : decode cX6_takesOf 63 = .ok (.goto 4, 3) := by decide +kernel
theorem dX6_takesOf_66 : decode cX6_takesOf 66 = .ok (.iload_n 3, 1) := by decide +kernel
theorem dX6_takesOf_67 : decode cX6_takesOf 67 = .ok (.ireturn, 1) := by decide +kernel
theorem dX6_takesOf_68 : decode cX6_takesOf 68 = .ok (.iload_n 2, 1) := by decide +kernel
theorem dX6_takesOf_69 : decode cX6_takesOf 69 = .ok (.ifCond .ne 7, 3) := by decide +kernel
theorem dX6_takesOf_72 : decode cX6_takesOf 72 = .ok (.iload_n 1, 1) := by decide +kernel
theorem dX6_takesOf_73 : decode cX6_takesOf 73 = .ok (.goto 6, 3) := by decide +kernel
theorem dX6_takesOf_76 : decode cX6_takesOf 76 = .ok (.iload_n 1, 1) := by decide +kernel
theorem dX6_takesOf_77 : decode cX6_takesOf 77 = .ok (.iconst 2, 1) := by decide +kernel
theorem dX6_takesOf_78 : decode cX6_takesOf 78 = .ok (.idiv, 1) := by decide +kernel
theorem dX6_takesOf_79 : decode cX6_takesOf 79 = .ok (.ireturn, 1) := by decide +kernel
theorem dX6_takesOf_80 : decode cX6_takesOf 80 = .ok (.iload_n 1, 1) := by decide +kernel
theorem dX6_takesOf_81 : decode cX6_takesOf 81 = .ok (.ireturn, 1) := by decide +kernel
theorem dX6_heavy_0 : decode cX6_heavy 0 = .ok (.iload_n 0, 1) := by decide +kernel
theorem dX6_heavy_1 : decode cX6_heavy 1 = .ok (.tableswitch 45 2 5 #[31, 37, 31, 41], 31) := by decide +kernel
theorem dX6_heavy_32 : decode cX6_heavy 32 = .ok (.iload_n 1, 1) := by decide +kernel
theorem dX6_heavy_33 : decode cX6_heavy 33 = .ok (.iconst 1, 1) := by decide +kernel
theorem dX6_heavy_34 : decode cX6_heavy 34 = .ok (.iadd, 1) := by decide +kernel
theorem dX6_heavy_35 : decode cX6_heavy 35 = .ok (.iconst 2, 1) := by decide +kernel
theorem dX6_heavy_36 : decode cX6_heavy 36 = .ok (.idiv, 1) := by decide +kernel
theorem dX6_heavy_37 : decode cX6_heavy 37 = .ok (.ireturn, 1) := by decide +kernel
theorem dX6_heavy_38 : decode cX6_heavy 38 = .ok (.iconst 2, 1) := by decide +kernel
theorem dX6_heavy_39 : decode cX6_heavy 39 = .ok (.iload_n 1, 1) := by decide +kernel
theorem dX6_heavy_40 : decode cX6_heavy 40 = .ok (.imul, 1) := by decide +kernel
theorem dX6_heavy_41 : decode cX6_heavy 41 = .ok (.ireturn, 1) := by decide +kernel
theorem dX6_heavy_42 : decode cX6_heavy 42 = .ok (.iload_n 1, 1) := by decide +kernel
theorem dX6_heavy_43 : decode cX6_heavy 43 = .ok (.iconst 1, 1) := by decide +kernel
theorem dX6_heavy_44 : decode cX6_heavy 44 = .ok (.iadd, 1) := by decide +kernel
theorem dX6_heavy_45 : decode cX6_heavy 45 = .ok (.ireturn, 1) := by decide +kernel
theorem dX6_heavy_46 : decode cX6_heavy 46 = .ok (.iload_n 1, 1) := by decide +kernel
theorem dX6_heavy_47 : decode cX6_heavy 47 = .ok (.ireturn, 1) := by decide +kernel
theorem dX6_takesOn_0 : decode cX6_takesOn 0 = .ok (.aload_n 1, 1) := by decide +kernel
theorem dX6_takesOn_1 : decode cX6_takesOn 1 = .ok (.iconst 5, 1) := by decide +kernel
theorem dX6_takesOn_2 : decode cX6_takesOn 2 = .ok (.iconst 4, 1) := by decide +kernel
theorem dX6_takesOn_3 : decode cX6_takesOn 3 = .ok (.iload_n 2, 1) := by decide +kernel
theorem dX6_takesOn_4 : decode cX6_takesOn 4 = .ok (.imul, 1) := by decide +kernel
theorem dX6_takesOn_5 : decode cX6_takesOn 5 = .ok (.iadd, 1) := by decide +kernel
theorem dX6_takesOn_6 : decode cX6_takesOn 6 = .ok (.aload_n 0, 1) := by decide +kernel
theorem dX6_takesOn_7 : decode cX6_takesOn 7 = .ok (.getfield 7, 3) := by decide +kernel
theorem dX6_takesOn_10 : decode cX6_takesOn 10 = .ok (.bipush 41, 2) := by decide +kernel
theorem dX6_takesOn_12 : decode cX6_takesOn 12 = .ok (.iload_n 3, 1) := by decide +kernel
theorem dX6_takesOn_13 : decode cX6_takesOn 13 = .ok (.iadd, 1) := by decide +kernel
theorem dX6_takesOn_14 : decode cX6_takesOn 14 = .ok (.iaload, 1) := by decide +kernel
theorem dX6_takesOn_15 : decode cX6_takesOn 15 = .ok (.iadd, 1) := by decide +kernel
theorem dX6_takesOn_16 : decode cX6_takesOn 16 = .ok (.iaload, 1) := by decide +kernel
theorem dX6_takesOn_17 : decode cX6_takesOn 17 = .ok (.istore 4, 2) := by decide +kernel
theorem dX6_takesOn_19 : decode cX6_takesOn 19 = .ok (.aload_n 0, 1) := by decide +kernel
theorem dX6_takesOn_20 : decode cX6_takesOn 20 = .ok (.getfield 7, 3) := by decide +kernel
theorem dX6_takesOn_23 : decode cX6_takesOn 23 = .ok (.bipush 49, 2) := by decide +kernel
theorem dX6_takesOn_25 : decode cX6_takesOn 25 = .ok (.iload_n 2, 1) := by decide +kernel
theorem dX6_takesOn_26 : decode cX6_takesOn 26 = .ok (.iadd, 1) := by decide +kernel
theorem dX6_takesOn_27 : decode cX6_takesOn 27 = .ok (.iaload, 1) := by decide +kernel
theorem dX6_takesOn_28 : decode cX6_takesOn 28 = .ok (.aload_n 0, 1) := by decide +kernel
theorem dX6_takesOn_29 : decode cX6_takesOn 29 = .ok (.getfield 7, 3) := by decide +kernel
theorem dX6_takesOn_32 : decode cX6_takesOn 32 = .ok (.bipush 34, 2) := by decide +kernel
theorem dX6_takesOn_34 : decode cX6_takesOn 34 = .ok (.iload_n 3, 1) := by decide +kernel
theorem dX6_takesOn_35 : decode cX6_takesOn 35 = .ok (.iadd, 1) := by decide +kernel
theorem dX6_takesOn_36 : decode cX6_takesOn 36 = .ok (.iaload, 1) := by decide +kernel
theorem dX6_takesOn_37 : decode cX6_takesOn 37 = .ok (.aload_n 1, 1) := by decide +kernel
theorem dX6_takesOn_38 : decode cX6_takesOn 38 = .ok (.bipush 25, 2) := by decide +kernel
theorem dX6_takesOn_40 : decode cX6_takesOn 40 = .ok (.iload_n 3, 1) := by decide +kernel
theorem dX6_takesOn_41 : decode cX6_takesOn 41 = .ok (.iadd, 1) := by decide +kernel
theorem dX6_takesOn_42 : decode cX6_takesOn 42 = .ok (.iaload, 1) := by decide +kernel
theorem dX6_takesOn_43 : decode cX6_takesOn 43 = .ok (.iload 4, 2) := by decide +kernel
theorem dX6_takesOn_45 : decode cX6_takesOn 45 = .ok (.aload_n 1, 1) := by decide +kernel
theorem dX6_takesOn_46 : decode cX6_takesOn 46 = .ok (.bipush 32, 2) := by decide +kernel
theorem dX6_takesOn_48 : decode cX6_takesOn 48 = .ok (.iaload, 1) := by decide +kernel
theorem dX6_takesOn_49 : decode cX6_takesOn 49 = .ok (.invokestatic 56, 3) := by decide +kernel
theorem dX6_takesOn_52 : decode cX6_takesOn 52 = .ok (.iload 4, 2) := by decide +kernel
theorem dX6_takesOn_54 : decode cX6_takesOn 54 = .ok (.invokestatic 60, 3) := by decide +kernel
theorem dX6_takesOn_57 : decode cX6_takesOn 57 = .ok (.ireturn, 1) := by decide +kernel
theorem dX6_oneTakes_0 : decode cX6_oneTakes 0 = .ok (.aload_n 1, 1) := by decide +kernel
theorem dX6_oneTakes_1 : decode cX6_oneTakes 1 = .ok (.iconst 0, 1) := by decide +kernel
theorem dX6_oneTakes_2 : decode cX6_oneTakes 2 = .ok (.iload_n 2, 1) := by decide +kernel
theorem dX6_oneTakes_3 : decode cX6_oneTakes 3 = .ok (.iadd, 1) := by decide +kernel
theorem dX6_oneTakes_4 : decode cX6_oneTakes 4 = .ok (.iaload, 1) := by decide +kernel
theorem dX6_oneTakes_5 : decode cX6_oneTakes 5 = .ok (.istore_n 3, 1) := by decide +kernel
theorem dX6_oneTakes_6 : decode cX6_oneTakes 6 = .ok (.iload_n 3, 1) := by decide +kernel
theorem dX6_oneTakes_7 : decode cX6_oneTakes 7 = .ok (.iconst (-1), 1) := by decide +kernel
theorem dX6_oneTakes_8 : decode cX6_oneTakes 8 = .ok (.if_icmp .eq 52, 3) := by decide +kernel
theorem dX6_oneTakes_11 : decode cX6_oneTakes 11 = .ok (.iconst 5, 1) := by decide +kernel
theorem dX6_oneTakes_12 : decode cX6_oneTakes 12 = .ok (.iconst 4, 1) := by decide +kernel
theorem dX6_oneTakes_13 : decode cX6_oneTakes 13 = .ok (.iload_n 2, 1) := by decide +kernel
theorem dX6_oneTakes_14 : decode cX6_oneTakes 14 = .ok (.imul, 1) := by decide +kernel
theorem dX6_oneTakes_15 : decode cX6_oneTakes 15 = .ok (.iadd, 1) := by decide +kernel
theorem dX6_oneTakes_16 : decode cX6_oneTakes 16 = .ok (.aload_n 0, 1) := by decide +kernel
theorem dX6_oneTakes_17 : decode cX6_oneTakes 17 = .ok (.getfield 7, 3) := by decide +kernel
theorem dX6_oneTakes_20 : decode cX6_oneTakes 20 = .ok (.bipush 41, 2) := by decide +kernel
theorem dX6_oneTakes_22 : decode cX6_oneTakes 22 = .ok (.iload_n 3, 1) := by decide +kernel
theorem dX6_oneTakes_23 : decode cX6_oneTakes 23 = .ok (.iadd, 1) := by decide +kernel
theorem dX6_oneTakes_24 : decode cX6_oneTakes 24 = .ok (.iaload, 1) := by decide +kernel
theorem dX6_oneTakes_25 : decode cX6_oneTakes 25 = .ok (.iadd, 1) := by decide +kernel
theorem dX6_oneTakes_26 : decode cX6_oneTakes 26 = .ok (.istore 4, 2) := by decide +kernel
theorem dX6_oneTakes_28 : decode cX6_oneTakes 28 = .ok (.aload_n 1, 1) := by decide +kernel
theorem dX6_oneTakes_29 : decode cX6_oneTakes 29 = .ok (.iload 4, 2) := by decide +kernel
theorem dX6_oneTakes_31 : decode cX6_oneTakes 31 = .ok (.iaload, 1) := by decide +kernel
theorem dX6_oneTakes_32 : decode cX6_oneTakes 32 = .ok (.aload_n 0, 1) := by decide +kernel
theorem dX6_oneTakes_33 : decode cX6_oneTakes 33 = .ok (.aload_n 1, 1) := by decide +kernel
theorem dX6_oneTakes_34 : decode cX6_oneTakes 34 = .ok (.iload_n 2, 1) := by decide +kernel
theorem dX6_oneTakes_35 : decode cX6_oneTakes 35 = .ok (.iload_n 3, 1) := by decide +kernel
theorem dX6_oneTakes_36 : decode cX6_oneTakes 36 = .ok (.invokevirtual 64, 3) := by decide +kernel
theorem dX6_oneTakes_39 : decode cX6_oneTakes 39 = .ok (.iadd, 1) := by decide +kernel
theorem dX6_oneTakes_40 : decode cX6_oneTakes 40 = .ok (.istore 5, 2) := by decide +kernel
theorem dX6_oneTakes_42 : decode cX6_oneTakes 42 = .ok (.aload_n 1, 1) := by decide +kernel
theorem dX6_oneTakes_43 : decode cX6_oneTakes 43 = .ok (.iload 4, 2) := by decide +kernel
theorem dX6_oneTakes_45 : decode cX6_oneTakes 45 = .ok (.iload 5, 2) := by decide +kernel
theorem dX6_oneTakes_47 : decode cX6_oneTakes 47 = .ok (.bipush 99, 2) := by decide +kernel
theorem dX6_oneTakes_49 : decode cX6_oneTakes 49 = .ok (.if_icmp .le 8, 3) := by decide +kernel
theorem dX6_oneTakes_52 : decode cX6_oneTakes 52 = .ok (.bipush 99, 2) := by decide +kernel
theorem dX6_oneTakes_54 : decode cX6_oneTakes 54 = .ok (.goto 5, 3) := by decide +kernel
theorem dX6_oneTakes_57 : decode cX6_oneTakes 57 = .ok (.iload 5, 2) := by decide +kernel
theorem dX6_oneTakes_59 : decode cX6_oneTakes 59 = .ok (.iastore, 1) := by decide +kernel
theorem dX6_oneTakes_60 : decode cX6_oneTakes 60 = .ok (.return_, 1) := by decide +kernel
theorem dX6_yearGoes_0 : decode cX6_yearGoes 0 = .ok (.iconst 0, 1) := by decide +kernel
theorem dX6_yearGoes_1 : decode cX6_yearGoes 1 = .ok (.istore_n 2, 1) := by decide +kernel
theorem dX6_yearGoes_2 : decode cX6_yearGoes 2 = .ok (.iload_n 2, 1) := by decide +kernel
theorem dX6_yearGoes_3 : decode cX6_yearGoes 3 = .ok (.aload_n 0, 1) := by decide +kernel
theorem dX6_yearGoes_4 : decode cX6_yearGoes 4 = .ok (.getfield 7, 3) := by decide +kernel
theorem dX6_yearGoes_7 : decode cX6_yearGoes 7 = .ok (.bipush 48, 2) := by decide +kernel
theorem dX6_yearGoes_9 : decode cX6_yearGoes 9 = .ok (.iaload, 1) := by decide +kernel
theorem dX6_yearGoes_10 : decode cX6_yearGoes 10 = .ok (.if_icmp .ge 15, 3) := by decide +kernel
theorem dX6_yearGoes_13 : decode cX6_yearGoes 13 = .ok (.aload_n 0, 1) := by decide +kernel
theorem dX6_yearGoes_14 : decode cX6_yearGoes 14 = .ok (.aload_n 1, 1) := by decide +kernel
theorem dX6_yearGoes_15 : decode cX6_yearGoes 15 = .ok (.iload_n 2, 1) := by decide +kernel
theorem dX6_yearGoes_16 : decode cX6_yearGoes 16 = .ok (.invokevirtual 68, 3) := by decide +kernel
theorem dX6_yearGoes_19 : decode cX6_yearGoes 19 = .ok (.iinc 2 1, 3) := by decide +kernel
theorem dX6_yearGoes_22 : decode cX6_yearGoes 22 = .ok (.goto (-20), 3) := by decide +kernel
theorem dX6_yearGoes_25 : decode cX6_yearGoes 25 = .ok (.iconst 0, 1) := by decide +kernel
theorem dX6_yearGoes_26 : decode cX6_yearGoes 26 = .ok (.istore_n 2, 1) := by decide +kernel
theorem dX6_yearGoes_27 : decode cX6_yearGoes 27 = .ok (.iload_n 2, 1) := by decide +kernel
theorem dX6_yearGoes_28 : decode cX6_yearGoes 28 = .ok (.aload_n 0, 1) := by decide +kernel
theorem dX6_yearGoes_29 : decode cX6_yearGoes 29 = .ok (.getfield 7, 3) := by decide +kernel
theorem dX6_yearGoes_32 : decode cX6_yearGoes 32 = .ok (.bipush 48, 2) := by decide +kernel
theorem dX6_yearGoes_34 : decode cX6_yearGoes 34 = .ok (.iaload, 1) := by decide +kernel
theorem dX6_yearGoes_35 : decode cX6_yearGoes 35 = .ok (.if_icmp .ge 79, 3) := by decide +kernel
theorem dX6_yearGoes_38 : decode cX6_yearGoes 38 = .ok (.aload_n 1, 1) := by decide +kernel
theorem dX6_yearGoes_39 : decode cX6_yearGoes 39 = .ok (.iconst 0, 1) := by decide +kernel
theorem dX6_yearGoes_40 : decode cX6_yearGoes 40 = .ok (.iload_n 2, 1) := by decide +kernel
theorem dX6_yearGoes_41 : decode cX6_yearGoes 41 = .ok (.iadd, 1) := by decide +kernel
theorem dX6_yearGoes_42 : decode cX6_yearGoes 42 = .ok (.iaload, 1) := by decide +kernel
theorem dX6_yearGoes_43 : decode cX6_yearGoes 43 = .ok (.istore_n 3, 1) := by decide +kernel
theorem dX6_yearGoes_44 : decode cX6_yearGoes 44 = .ok (.iload_n 3, 1) := by decide +kernel
theorem dX6_yearGoes_45 : decode cX6_yearGoes 45 = .ok (.iconst (-1), 1) := by decide +kernel
theorem dX6_yearGoes_46 : decode cX6_yearGoes 46 = .ok (.if_icmp .eq 62, 3) := by decide +kernel
theorem dX6_yearGoes_49 : decode cX6_yearGoes 49 = .ok (.aload_n 1, 1) := by decide +kernel
theorem dX6_yearGoes_50 : decode cX6_yearGoes 50 = .ok (.bipush 25, 2) := by decide +kernel
theorem dX6_yearGoes_52 : decode cX6_yearGoes 52 = .ok (.iload_n 3, 1) := by decide +kernel
theorem dX6_yearGoes_53 : decode cX6_yearGoes 53 = .ok (.iadd, 1) := by decide +kernel
theorem dX6_yearGoes_54 : decode cX6_yearGoes 54 = .ok (.iaload, 1) := by decide +kernel
theorem dX6_yearGoes_55 : decode cX6_yearGoes 55 = .ok (.aload_n 0, 1) := by decide +kernel
theorem dX6_yearGoes_56 : decode cX6_yearGoes 56 = .ok (.getfield 7, 3) := by decide +kernel
theorem dX6_yearGoes_59 : decode cX6_yearGoes 59 = .ok (.bipush 34, 2) := by decide +kernel
theorem dX6_yearGoes_61 : decode cX6_yearGoes 61 = .ok (.iload_n 3, 1) := by decide +kernel
theorem dX6_yearGoes_62 : decode cX6_yearGoes 62 = .ok (.iadd, 1) := by decide +kernel
theorem dX6_yearGoes_63 : decode cX6_yearGoes 63 = .ok (.iaload, 1) := by decide +kernel
theorem dX6_yearGoes_64 : decode cX6_yearGoes 64 = .ok (.aload_n 0, 1) := by decide +kernel
theorem dX6_yearGoes_65 : decode cX6_yearGoes 65 = .ok (.getfield 7, 3) := by decide +kernel
theorem dX6_yearGoes_68 : decode cX6_yearGoes 68 = .ok (.bipush 49, 2) := by decide +kernel
theorem dX6_yearGoes_70 : decode cX6_yearGoes 70 = .ok (.iload_n 2, 1) := by decide +kernel
theorem dX6_yearGoes_71 : decode cX6_yearGoes 71 = .ok (.iadd, 1) := by decide +kernel
theorem dX6_yearGoes_72 : decode cX6_yearGoes 72 = .ok (.iaload, 1) := by decide +kernel
theorem dX6_yearGoes_73 : decode cX6_yearGoes 73 = .ok (.aload_n 0, 1) := by decide +kernel
theorem dX6_yearGoes_74 : decode cX6_yearGoes 74 = .ok (.getfield 7, 3) := by decide +kernel
theorem dX6_yearGoes_77 : decode cX6_yearGoes 77 = .ok (.bipush 54, 2) := by decide +kernel
theorem dX6_yearGoes_79 : decode cX6_yearGoes 79 = .ok (.iload_n 2, 1) := by decide +kernel
theorem dX6_yearGoes_80 : decode cX6_yearGoes 80 = .ok (.iadd, 1) := by decide +kernel
theorem dX6_yearGoes_81 : decode cX6_yearGoes 81 = .ok (.iaload, 1) := by decide +kernel
theorem dX6_yearGoes_82 : decode cX6_yearGoes 82 = .ok (.invokestatic 72, 3) := by decide +kernel
theorem dX6_yearGoes_85 : decode cX6_yearGoes 85 = .ok (.invokestatic 75, 3) := by decide +kernel
theorem dX6_yearGoes_88 : decode cX6_yearGoes 88 = .ok (.isub, 1) := by decide +kernel
theorem dX6_yearGoes_89 : decode cX6_yearGoes 89 = .ok (.istore 4, 2) := by decide +kernel
theorem dX6_yearGoes_91 : decode cX6_yearGoes 91 = .ok (.aload_n 1, 1) := by decide +kernel
theorem dX6_yearGoes_92 : decode cX6_yearGoes 92 = .ok (.bipush 25, 2) := by decide +kernel
theorem dX6_yearGoes_94 : decode cX6_yearGoes 94 = .ok (.iload_n 3, 1) := by decide +kernel
theorem dX6_yearGoes_95 : decode cX6_yearGoes 95 = .ok (.iadd, 1) := by decide +kernel
theorem dX6_yearGoes_96 : decode cX6_yearGoes 96 = .ok (.iload 4, 2) := by decide +kernel
theorem dX6_yearGoes_98 : decode cX6_yearGoes 98 = .ok (.ifCond .ge 7, 3) := by decide +kernel
theorem dX6_yearGoes_101 : decode cX6_yearGoes 101 = .ok (.iconst 0, 1) := by decide +kernel
theorem dX6_yearGoes_102 : decode cX6_yearGoes 102 = .ok (.goto 5, 3) := by decide +kernel
theorem dX6_yearGoes_105 : decode cX6_yearGoes 105 = .ok (.iload 4, 2) := by decide +kernel
theorem dX6_yearGoes_107 : decode cX6_yearGoes 107 = .ok (.iastore, 1) := by decide +kernel
theorem dX6_yearGoes_108 : decode cX6_yearGoes 108 = .ok (.iinc 2 1, 3) := by decide +kernel
theorem dX6_yearGoes_111 : decode cX6_yearGoes 111 = .ok (.goto (-84), 3) := by decide +kernel
theorem dX6_yearGoes_114 : decode cX6_yearGoes 114 = .ok (.aload_n 1, 1) := by decide +kernel
theorem dX6_yearGoes_115 : decode cX6_yearGoes 115 = .ok (.bipush 32, 2) := by decide +kernel
theorem dX6_yearGoes_117 : decode cX6_yearGoes 117 = .ok (.dup2, 1) := by decide +kernel
theorem dX6_yearGoes_118 : decode cX6_yearGoes 118 = .ok (.iaload, 1) := by decide +kernel
theorem dX6_yearGoes_119 : decode cX6_yearGoes 119 = .ok (.iconst 1, 1) := by decide +kernel
theorem dX6_yearGoes_120 : decode cX6_yearGoes 120 = .ok (.iadd, 1) := by decide +kernel
theorem dX6_yearGoes_121 : decode cX6_yearGoes 121 = .ok (.iastore, 1) := by decide +kernel
theorem dX6_yearGoes_122 : decode cX6_yearGoes 122 = .ok (.return_, 1) := by decide +kernel
theorem dX6_does_0 : decode cX6_does 0 = .ok (.iconst 0, 1) := by decide +kernel
theorem dX6_does_1 : decode cX6_does 1 = .ok (.istore_n 2, 1) := by decide +kernel
theorem dX6_does_2 : decode cX6_does 2 = .ok (.iconst 1, 1) := by decide +kernel
theorem dX6_does_3 : decode cX6_does 3 = .ok (.istore_n 3, 1) := by decide +kernel
theorem dX6_does_4 : decode cX6_does 4 = .ok (.iload_n 3, 1) := by decide +kernel
theorem dX6_does_5 : decode cX6_does 5 = .ok (.iconst 4, 1) := by decide +kernel
theorem dX6_does_6 : decode cX6_does 6 = .ok (.if_icmp .ge 36, 3) := by decide +kernel
theorem dX6_does_9 : decode cX6_does 9 = .ok (.aload_n 0, 1) := by decide +kernel
theorem dX6_does_10 : decode cX6_does 10 = .ok (.iconst 5, 1) := by decide +kernel
theorem dX6_does_11 : decode cX6_does 11 = .ok (.iconst 4, 1) := by decide +kernel
theorem dX6_does_12 : decode cX6_does 12 = .ok (.iload_n 1, 1) := by decide +kernel
theorem dX6_does_13 : decode cX6_does 13 = .ok (.imul, 1) := by decide +kernel
theorem dX6_does_14 : decode cX6_does 14 = .ok (.iadd, 1) := by decide +kernel
theorem dX6_does_15 : decode cX6_does 15 = .ok (.iload_n 3, 1) := by decide +kernel
theorem dX6_does_16 : decode cX6_does 16 = .ok (.iadd, 1) := by decide +kernel
theorem dX6_does_17 : decode cX6_does 17 = .ok (.iaload, 1) := by decide +kernel
theorem dX6_does_18 : decode cX6_does 18 = .ok (.aload_n 0, 1) := by decide +kernel
theorem dX6_does_19 : decode cX6_does 19 = .ok (.iconst 5, 1) := by decide +kernel
theorem dX6_does_20 : decode cX6_does 20 = .ok (.iconst 4, 1) := by decide +kernel
theorem dX6_does_21 : decode cX6_does 21 = .ok (.iload_n 1, 1) := by decide +kernel
theorem dX6_does_22 : decode cX6_does 22 = .ok (.imul, 1) := by decide +kernel
theorem dX6_does_23 : decode cX6_does 23 = .ok (.iadd, 1) := by decide +kernel
theorem dX6_does_24 : decode cX6_does 24 = .ok (.iload_n 2, 1) := by decide +kernel
theorem dX6_does_25 : decode cX6_does 25 = .ok (.iadd, 1) := by decide +kernel
theorem dX6_does_26 : decode cX6_does 26 = .ok (.iaload, 1) := by decide +kernel
theorem dX6_does_27 : decode cX6_does 27 = .ok (.if_icmp .le 7, 3) := by decide +kernel
theorem dX6_does_30 : decode cX6_does 30 = .ok (.iload_n 3, 1) := by decide +kernel
theorem dX6_does_31 : decode cX6_does 31 = .ok (.goto 4, 3) := by decide +kernel
theorem dX6_does_34 : decode cX6_does 34 = .ok (.iload_n 2, 1) := by decide +kernel
theorem dX6_does_35 : decode cX6_does 35 = .ok (.istore_n 2, 1) := by decide +kernel
theorem dX6_does_36 : decode cX6_does 36 = .ok (.iinc 3 1, 3) := by decide +kernel
theorem dX6_does_39 : decode cX6_does 39 = .ok (.goto (-35), 3) := by decide +kernel
theorem dX6_does_42 : decode cX6_does 42 = .ok (.aload_n 0, 1) := by decide +kernel
theorem dX6_does_43 : decode cX6_does 43 = .ok (.iconst 5, 1) := by decide +kernel
theorem dX6_does_44 : decode cX6_does 44 = .ok (.iconst 4, 1) := by decide +kernel
theorem dX6_does_45 : decode cX6_does 45 = .ok (.iload_n 1, 1) := by decide +kernel
theorem dX6_does_46 : decode cX6_does 46 = .ok (.imul, 1) := by decide +kernel
theorem dX6_does_47 : decode cX6_does 47 = .ok (.iadd, 1) := by decide +kernel
theorem dX6_does_48 : decode cX6_does 48 = .ok (.iload_n 2, 1) := by decide +kernel
theorem dX6_does_49 : decode cX6_does 49 = .ok (.iadd, 1) := by decide +kernel
theorem dX6_does_50 : decode cX6_does 50 = .ok (.iaload, 1) := by decide +kernel
theorem dX6_does_51 : decode cX6_does 51 = .ok (.bipush 10, 2) := by decide +kernel
theorem dX6_does_53 : decode cX6_does 53 = .ok (.if_icmp .ge 7, 3) := by decide +kernel
theorem dX6_does_56 : decode cX6_does 56 = .ok (.iconst (-1), 1) := by decide +kernel
theorem dX6_does_57 : decode cX6_does 57 = .ok (.goto 4, 3) := by decide +kernel
theorem dX6_does_60 : decode cX6_does 60 = .ok (.iload_n 2, 1) := by decide +kernel
theorem dX6_does_61 : decode cX6_does 61 = .ok (.ireturn, 1) := by decide +kernel
theorem dX6_whoDo_0 : decode cX6_whoDo 0 = .ok (.iconst 0, 1) := by decide +kernel
theorem dX6_whoDo_1 : decode cX6_whoDo 1 = .ok (.istore_n 2, 1) := by decide +kernel
theorem dX6_whoDo_2 : decode cX6_whoDo 2 = .ok (.iconst 0, 1) := by decide +kernel
theorem dX6_whoDo_3 : decode cX6_whoDo 3 = .ok (.istore_n 3, 1) := by decide +kernel
theorem dX6_whoDo_4 : decode cX6_whoDo 4 = .ok (.iload_n 3, 1) := by decide +kernel
theorem dX6_whoDo_5 : decode cX6_whoDo 5 = .ok (.aload_n 0, 1) := by decide +kernel
theorem dX6_whoDo_6 : decode cX6_whoDo 6 = .ok (.getfield 7, 3) := by decide +kernel
theorem dX6_whoDo_9 : decode cX6_whoDo 9 = .ok (.bipush 48, 2) := by decide +kernel
theorem dX6_whoDo_11 : decode cX6_whoDo 11 = .ok (.iaload, 1) := by decide +kernel
theorem dX6_whoDo_12 : decode cX6_whoDo 12 = .ok (.if_icmp .ge 26, 3) := by decide +kernel
theorem dX6_whoDo_15 : decode cX6_whoDo 15 = .ok (.iload_n 2, 1) := by decide +kernel
theorem dX6_whoDo_16 : decode cX6_whoDo 16 = .ok (.aload_n 1, 1) := by decide +kernel
theorem dX6_whoDo_17 : decode cX6_whoDo 17 = .ok (.iload_n 3, 1) := by decide +kernel
theorem dX6_whoDo_18 : decode cX6_whoDo 18 = .ok (.invokestatic 78, 3) := by decide +kernel
theorem dX6_whoDo_21 : decode cX6_whoDo 21 = .ok (.iconst (-1), 1) := by decide +kernel
theorem dX6_whoDo_22 : decode cX6_whoDo 22 = .ok (.if_icmp .ne 7, 3) := by decide +kernel
theorem dX6_whoDo_25 : decode cX6_whoDo 25 = .ok (.iconst 0, 1) := by decide +kernel
theorem dX6_whoDo_26 : decode cX6_whoDo 26 = .ok (.goto 4, 3) := by decide +kernel
theorem dX6_whoDo_29 : decode cX6_whoDo 29 = .ok (.iconst 1, 1) := by decide +kernel
theorem dX6_whoDo_30 : decode cX6_whoDo 30 = .ok (.iadd, 1) := by decide +kernel
theorem dX6_whoDo_31 : decode cX6_whoDo 31 = .ok (.istore_n 2, 1) := by decide +kernel
theorem dX6_whoDo_32 : decode cX6_whoDo 32 = .ok (.iinc 3 1, 3) := by decide +kernel
theorem dX6_whoDo_35 : decode cX6_whoDo 35 = .ok (.goto (-31), 3) := by decide +kernel
theorem dX6_whoDo_38 : decode cX6_whoDo 38 = .ok (.iload_n 2, 1) := by decide +kernel
theorem dX6_whoDo_39 : decode cX6_whoDo 39 = .ok (.ireturn, 1) := by decide +kernel
theorem dX6_whoOn_0 : decode cX6_whoOn 0 = .ok (.iconst (-1), 1) := by decide +kernel
theorem dX6_whoOn_1 : decode cX6_whoOn 1 = .ok (.istore_n 2, 1) := by decide +kernel
theorem dX6_whoOn_2 : decode cX6_whoOn 2 = .ok (.iconst 4, 1) := by decide +kernel
theorem dX6_whoOn_3 : decode cX6_whoOn 3 = .ok (.istore_n 3, 1) := by decide +kernel
theorem dX6_whoOn_4 : decode cX6_whoOn 4 = .ok (.iload_n 3, 1) := by decide +kernel
theorem dX6_whoOn_5 : decode cX6_whoOn 5 = .ok (.ifCond .lt 24, 3) := by decide +kernel
theorem dX6_whoOn_8 : decode cX6_whoOn 8 = .ok (.aload_n 0, 1) := by decide +kernel
theorem dX6_whoOn_9 : decode cX6_whoOn 9 = .ok (.iconst 0, 1) := by decide +kernel
theorem dX6_whoOn_10 : decode cX6_whoOn 10 = .ok (.iload_n 3, 1) := by decide +kernel
theorem dX6_whoOn_11 : decode cX6_whoOn 11 = .ok (.iadd, 1) := by decide +kernel
theorem dX6_whoOn_12 : decode cX6_whoOn 12 = .ok (.iaload, 1) := by decide +kernel
theorem dX6_whoOn_13 : decode cX6_whoOn 13 = .ok (.iload_n 1, 1) := by decide +kernel
theorem dX6_whoOn_14 : decode cX6_whoOn 14 = .ok (.if_icmp .ne 7, 3) := by decide +kernel
theorem dX6_whoOn_17 : decode cX6_whoOn 17 = .ok (.iload_n 3, 1) := by decide +kernel
theorem dX6_whoOn_18 : decode cX6_whoOn 18 = .ok (.goto 4, 3) := by decide +kernel
theorem dX6_whoOn_21 : decode cX6_whoOn 21 = .ok (.iload_n 2, 1) := by decide +kernel
theorem dX6_whoOn_22 : decode cX6_whoOn 22 = .ok (.istore_n 2, 1) := by decide +kernel
theorem dX6_whoOn_23 : decode cX6_whoOn 23 = .ok (.iinc 3 (-1), 3) := by decide +kernel
theorem dX6_whoOn_26 : decode cX6_whoOn 26 = .ok (.goto (-22), 3) := by decide +kernel
theorem dX6_whoOn_29 : decode cX6_whoOn 29 = .ok (.iload_n 2, 1) := by decide +kernel
theorem dX6_whoOn_30 : decode cX6_whoOn 30 = .ok (.ireturn, 1) := by decide +kernel
theorem dX6_remember_0 : decode cX6_remember 0 = .ok (.aload_n 0, 1) := by decide +kernel
theorem dX6_remember_1 : decode cX6_remember 1 = .ok (.getfield 7, 3) := by decide +kernel
theorem dX6_remember_4 : decode cX6_remember 4 = .ok (.sipush 134, 3) := by decide +kernel
theorem dX6_remember_7 : decode cX6_remember 7 = .ok (.iaload, 1) := by decide +kernel
theorem dX6_remember_8 : decode cX6_remember 8 = .ok (.bipush 8, 2) := by decide +kernel
theorem dX6_remember_10 : decode cX6_remember 10 = .ok (.if_icmp .ne 53, 3) := by decide +kernel
theorem dX6_remember_13 : decode cX6_remember 13 = .ok (.iconst 0, 1) := by decide +kernel
theorem dX6_remember_14 : decode cX6_remember 14 = .ok (.istore_n 1, 1) := by decide +kernel
theorem dX6_remember_15 : decode cX6_remember 15 = .ok (.iload_n 1, 1) := by decide +kernel
theorem dX6_remember_16 : decode cX6_remember 16 = .ok (.sipush 231, 3) := by decide +kernel
theorem dX6_remember_19 : decode cX6_remember 19 = .ok (.if_icmp .ge 32, 3) := by decide +kernel
theorem dX6_remember_22 : decode cX6_remember 22 = .ok (.aload_n 0, 1) := by decide +kernel
theorem dX6_remember_23 : decode cX6_remember 23 = .ok (.getfield 7, 3) := by decide +kernel
theorem dX6_remember_26 : decode cX6_remember 26 = .ok (.sipush 135, 3) := by decide +kernel
theorem dX6_remember_29 : decode cX6_remember 29 = .ok (.iload_n 1, 1) := by decide +kernel
theorem dX6_remember_30 : decode cX6_remember 30 = .ok (.iadd, 1) := by decide +kernel
theorem dX6_remember_31 : decode cX6_remember 31 = .ok (.aload_n 0, 1) := by decide +kernel
theorem dX6_remember_32 : decode cX6_remember 32 = .ok (.getfield 7, 3) := by decide +kernel
theorem dX6_remember_35 : decode cX6_remember 35 = .ok (.sipush 135, 3) := by decide +kernel
theorem dX6_remember_38 : decode cX6_remember 38 = .ok (.iload_n 1, 1) := by decide +kernel
theorem dX6_remember_39 : decode cX6_remember 39 = .ok (.iadd, 1) := by decide +kernel
theorem dX6_remember_40 : decode cX6_remember 40 = .ok (.bipush 33, 2) := by decide +kernel
theorem dX6_remember_42 : decode cX6_remember 42 = .ok (.iadd, 1) := by decide +kernel
theorem dX6_remember_43 : decode cX6_remember 43 = .ok (.iaload, 1) := by decide +kernel
theorem dX6_remember_44 : decode cX6_remember 44 = .ok (.iastore, 1) := by decide +kernel
theorem dX6_remember_45 : decode cX6_remember 45 = .ok (.iinc 1 1, 3) := by decide +kernel
theorem dX6_remember_48 : decode cX6_remember 48 = .ok (.goto (-33), 3) := by decide +kernel
theorem dX6_remember_51 : decode cX6_remember 51 = .ok (.aload_n 0, 1) := by decide +kernel
theorem dX6_remember_52 : decode cX6_remember 52 = .ok (.getfield 7, 3) := by decide +kernel
theorem dX6_remember_55 : decode cX6_remember 55 = .ok (.sipush 134, 3) := by decide +kernel
theorem dX6_remember_58 : decode cX6_remember 58 = .ok (.dup2, 1) := by decide +kernel
theorem dX6_remember_59 : decode cX6_remember 59 = .ok (.iaload, 1) := by decide +kernel
theorem dX6_remember_60 : decode cX6_remember 60 = .ok (.iconst 1, 1) := by decide +kernel
theorem dX6_remember_61 : decode cX6_remember 61 = .ok (.isub, 1) := by decide +kernel
theorem dX6_remember_62 : decode cX6_remember 62 = .ok (.iastore, 1) := by decide +kernel
theorem dX6_remember_63 : decode cX6_remember 63 = .ok (.aload_n 0, 1) := by decide +kernel
theorem dX6_remember_64 : decode cX6_remember 64 = .ok (.getfield 7, 3) := by decide +kernel
theorem dX6_remember_67 : decode cX6_remember 67 = .ok (.iconst 0, 1) := by decide +kernel
theorem dX6_remember_68 : decode cX6_remember 68 = .ok (.aload_n 0, 1) := by decide +kernel
theorem dX6_remember_69 : decode cX6_remember 69 = .ok (.getfield 7, 3) := by decide +kernel
theorem dX6_remember_72 : decode cX6_remember 72 = .ok (.sipush 135, 3) := by decide +kernel
theorem dX6_remember_75 : decode cX6_remember 75 = .ok (.bipush 33, 2) := by decide +kernel
theorem dX6_remember_77 : decode cX6_remember 77 = .ok (.aload_n 0, 1) := by decide +kernel
theorem dX6_remember_78 : decode cX6_remember 78 = .ok (.getfield 7, 3) := by decide +kernel
theorem dX6_remember_81 : decode cX6_remember 81 = .ok (.sipush 134, 3) := by decide +kernel
theorem dX6_remember_84 : decode cX6_remember 84 = .ok (.iaload, 1) := by decide +kernel
theorem dX6_remember_85 : decode cX6_remember 85 = .ok (.imul, 1) := by decide +kernel
theorem dX6_remember_86 : decode cX6_remember 86 = .ok (.iadd, 1) := by decide +kernel
theorem dX6_remember_87 : decode cX6_remember 87 = .ok (.bipush 33, 2) := by decide +kernel
theorem dX6_remember_89 : decode cX6_remember 89 = .ok (.invokestatic 82, 3) := by decide +kernel
theorem dX6_remember_92 : decode cX6_remember 92 = .ok (.aload_n 0, 1) := by decide +kernel
theorem dX6_remember_93 : decode cX6_remember 93 = .ok (.getfield 7, 3) := by decide +kernel
theorem dX6_remember_96 : decode cX6_remember 96 = .ok (.sipush 134, 3) := by decide +kernel
theorem dX6_remember_99 : decode cX6_remember 99 = .ok (.dup2, 1) := by decide +kernel
theorem dX6_remember_100 : decode cX6_remember 100 = .ok (.iaload, 1) := by decide +kernel
theorem dX6_remember_101 : decode cX6_remember 101 = .ok (.iconst 1, 1) := by decide +kernel
theorem dX6_remember_102 : decode cX6_remember 102 = .ok (.iadd, 1) := by decide +kernel
theorem dX6_remember_103 : decode cX6_remember 103 = .ok (.iastore, 1) := by decide +kernel
theorem dX6_remember_104 : decode cX6_remember 104 = .ok (.return_, 1) := by decide +kernel
theorem dX6_layAside_0 : decode cX6_layAside 0 = .ok (.aload_n 0, 1) := by decide +kernel
theorem dX6_layAside_1 : decode cX6_layAside 1 = .ok (.getfield 7, 3) := by decide +kernel
theorem dX6_layAside_4 : decode cX6_layAside 4 = .ok (.iconst 0, 1) := by decide +kernel
theorem dX6_layAside_5 : decode cX6_layAside 5 = .ok (.aload_n 0, 1) := by decide +kernel
theorem dX6_layAside_6 : decode cX6_layAside 6 = .ok (.getfield 16, 3) := by decide +kernel
theorem dX6_layAside_9 : decode cX6_layAside 9 = .ok (.iconst 0, 1) := by decide +kernel
theorem dX6_layAside_10 : decode cX6_layAside 10 = .ok (.bipush 33, 2) := by decide +kernel
theorem dX6_layAside_12 : decode cX6_layAside 12 = .ok (.invokestatic 82, 3) := by decide +kernel
theorem dX6_layAside_15 : decode cX6_layAside 15 = .ok (.return_, 1) := by decide +kernel
theorem dX6_isSeat_0 : decode cX6_isSeat 0 = .ok (.iload_n 1, 1) := by decide +kernel
theorem dX6_isSeat_1 : decode cX6_isSeat 1 = .ok (.i2l, 1) := by decide +kernel
theorem dX6_isSeat_2 : decode cX6_isSeat 2 = .ok (.lconst 0, 1) := by decide +kernel
theorem dX6_isSeat_3 : decode cX6_isSeat 3 = .ok (.aload_n 0, 1) := by decide +kernel
theorem dX6_isSeat_4 : decode cX6_isSeat 4 = .ok (.getfield 7, 3) := by decide +kernel
theorem dX6_isSeat_7 : decode cX6_isSeat 7 = .ok (.bipush 33, 2) := by decide +kernel
theorem dX6_isSeat_9 : decode cX6_isSeat 9 = .ok (.iaload, 1) := by decide +kernel
theorem dX6_isSeat_10 : decode cX6_isSeat 10 = .ok (.iconst 1, 1) := by decide +kernel
theorem dX6_isSeat_11 : decode cX6_isSeat 11 = .ok (.isub, 1) := by decide +kernel
theorem dX6_isSeat_12 : decode cX6_isSeat 12 = .ok (.i2l, 1) := by decide +kernel
theorem dX6_isSeat_13 : decode cX6_isSeat 13 = .ok (.invokestatic 86, 3) := by decide +kernel
theorem dX6_isSeat_16 : decode cX6_isSeat 16 = .ok (.ireturn, 1) := by decide +kernel
theorem dX6_isCanon_0 : decode cX6_isCanon 0 = .ok (.iload_n 1, 1) := by decide +kernel
theorem dX6_isCanon_1 : decode cX6_isCanon 1 = .ok (.i2l, 1) := by decide +kernel
theorem dX6_isCanon_2 : decode cX6_isCanon 2 = .ok (.lconst 0, 1) := by decide +kernel
theorem dX6_isCanon_3 : decode cX6_isCanon 3 = .ok (.aload_n 0, 1) := by decide +kernel
theorem dX6_isCanon_4 : decode cX6_isCanon 4 = .ok (.getfield 7, 3) := by decide +kernel
theorem dX6_isCanon_7 : decode cX6_isCanon 7 = .ok (.bipush 48, 2) := by decide +kernel
theorem dX6_isCanon_9 : decode cX6_isCanon 9 = .ok (.iaload, 1) := by decide +kernel
theorem dX6_isCanon_10 : decode cX6_isCanon 10 = .ok (.iconst 1, 1) := by decide +kernel
theorem dX6_isCanon_11 : decode cX6_isCanon 11 = .ok (.isub, 1) := by decide +kernel
theorem dX6_isCanon_12 : decode cX6_isCanon 12 = .ok (.i2l, 1) := by decide +kernel
theorem dX6_isCanon_13 : decode cX6_isCanon 13 = .ok (.invokestatic 86, 3) := by decide +kernel
theorem dX6_isCanon_16 : decode cX6_isCanon 16 = .ok (.ireturn, 1) := by decide +kernel
theorem dX6_isTrait_0 : decode cX6_isTrait 0 = .ok (.iload_n 0, 1) := by decide +kernel
theorem dX6_isTrait_1 : decode cX6_isTrait 1 = .ok (.i2l, 1) := by decide +kernel
theorem dX6_isTrait_2 : decode cX6_isTrait 2 = .ok (.lconst 0, 1) := by decide +kernel
theorem dX6_isTrait_3 : decode cX6_isTrait 3 = .ok (.ldc2_w 90, 3) := by decide +kernel
theorem dX6_isTrait_6 : decode cX6_isTrait 6 = .ok (.invokestatic 86, 3) := by decide +kernel
theorem dX6_isTrait_9 : decode cX6_isTrait 9 = .ok (.ireturn, 1) := by decide +kernel
theorem dX6_chapter_0 : decode cX6_chapter 0 = .ok (.aload_n 0, 1) := by decide +kernel
theorem dX6_chapter_1 : decode cX6_chapter 1 = .ok (.getfield 7, 3) := by decide +kernel
theorem dX6_chapter_4 : decode cX6_chapter 4 = .ok (.bipush 48, 2) := by decide +kernel
theorem dX6_chapter_6 : decode cX6_chapter 6 = .ok (.iaload, 1) := by decide +kernel
theorem dX6_chapter_7 : decode cX6_chapter 7 = .ok (.istore_n 1, 1) := by decide +kernel
theorem dX6_chapter_8 : decode cX6_chapter 8 = .ok (.aload_n 0, 1) := by decide +kernel
theorem dX6_chapter_9 : decode cX6_chapter 9 = .ok (.getfield 7, 3) := by decide +kernel
theorem dX6_chapter_12 : decode cX6_chapter 12 = .ok (.invokestatic 48, 3) := by decide +kernel
theorem dX6_chapter_15 : decode cX6_chapter 15 = .ok (.iload_n 1, 1) := by decide +kernel
theorem dX6_chapter_16 : decode cX6_chapter 16 = .ok (.ireturn, 1) := by decide +kernel
theorem dX6_seat_0 : decode cX6_seat 0 = .ok (.iload_n 1, 1) := by decide +kernel
theorem dX6_seat_1 : decode cX6_seat 1 = .ok (.i2l, 1) := by decide +kernel
theorem dX6_seat_2 : decode cX6_seat 2 = .ok (.lconst 0, 1) := by decide +kernel
theorem dX6_seat_3 : decode cX6_seat 3 = .ok (.ldc2_w 92, 3) := by decide +kernel
theorem dX6_seat_6 : decode cX6_seat 6 = .ok (.invokestatic 86, 3) := by decide +kernel
theorem dX6_seat_9 : decode cX6_seat 9 = .ok (.ifCond .eq 22, 3) := by decide +kernel
theorem dX6_seat_12 : decode cX6_seat 12 = .ok (.iload_n 2, 1) := by decide +kernel
theorem dX6_seat_13 : decode cX6_seat 13 = .ok (.invokestatic 94, 3) := by decide +kernel
theorem dX6_seat_16 : decode cX6_seat 16 = .ok (.ifCond .eq 15, 3) := by decide +kernel
theorem dX6_seat_19 : decode cX6_seat 19 = .ok (.iload_n 3, 1) := by decide +kernel
theorem dX6_seat_20 : decode cX6_seat 20 = .ok (.i2l, 1) := by decide +kernel
theorem dX6_seat_21 : decode cX6_seat 21 = .ok (.lconst 0, 1) := by decide +kernel
theorem dX6_seat_22 : decode cX6_seat 22 = .ok (.ldc2_w 98, 3) := by decide +kernel
theorem dX6_seat_25 : decode cX6_seat 25 = .ok (.invokestatic 86, 3) := by decide +kernel
theorem dX6_seat_28 : decode cX6_seat 28 = .ok (.ifCond .ne 8, 3) := by decide +kernel
theorem dX6_seat_31 : decode cX6_seat 31 = .ok (.aload_n 0, 1) := by decide +kernel
theorem dX6_seat_32 : decode cX6_seat 32 = .ok (.invokevirtual 100, 3) := by decide +kernel
theorem dX6_seat_35 : decode cX6_seat 35 = .ok (.ireturn, 1) := by decide +kernel
theorem dX6_seat_36 : decode cX6_seat 36 = .ok (.aload_n 0, 1) := by decide +kernel
theorem dX6_seat_37 : decode cX6_seat 37 = .ok (.getfield 7, 3) := by decide +kernel
theorem dX6_seat_40 : decode cX6_seat 40 = .ok (.bipush 33, 2) := by decide +kernel
theorem dX6_seat_42 : decode cX6_seat 42 = .ok (.iaload, 1) := by decide +kernel
theorem dX6_seat_43 : decode cX6_seat 43 = .ok (.bipush 7, 2) := by decide +kernel
theorem dX6_seat_45 : decode cX6_seat 45 = .ok (.if_icmp .ne 11, 3) := by decide +kernel
theorem dX6_seat_48 : decode cX6_seat 48 = .ok (.aload_n 0, 1) := by decide +kernel
theorem dX6_seat_49 : decode cX6_seat 49 = .ok (.iconst 2, 1) := by decide +kernel
theorem dX6_seat_50 : decode cX6_seat 50 = .ok (.bipush (-4), 2) := by decide +kernel
theorem dX6_seat_52 : decode cX6_seat 52 = .ok (.invokevirtual 52, 3) := by decide +kernel
theorem dX6_seat_55 : decode cX6_seat 55 = .ok (.ireturn, 1) := by decide +kernel
theorem dX6_seat_56 : decode cX6_seat 56 = .ok (.aload_n 0, 1) := by decide +kernel
theorem dX6_seat_57 : decode cX6_seat 57 = .ok (.getfield 7, 3) := by decide +kernel
theorem dX6_seat_60 : decode cX6_seat 60 = .ok (.bipush 33, 2) := by decide +kernel
theorem dX6_seat_62 : decode cX6_seat 62 = .ok (.iaload, 1) := by decide +kernel
theorem dX6_seat_63 : decode cX6_seat 63 = .ok (.istore 4, 2) := by decide +kernel
theorem dX6_seat_65 : decode cX6_seat 65 = .ok (.aload_n 0, 1) := by decide +kernel
theorem dX6_seat_66 : decode cX6_seat 66 = .ok (.getfield 7, 3) := by decide +kernel
theorem dX6_seat_69 : decode cX6_seat 69 = .ok (.bipush 34, 2) := by decide +kernel
theorem dX6_seat_71 : decode cX6_seat 71 = .ok (.iload 4, 2) := by decide +kernel
theorem dX6_seat_73 : decode cX6_seat 73 = .ok (.iadd, 1) := by decide +kernel
theorem dX6_seat_74 : decode cX6_seat 74 = .ok (.iload_n 1, 1) := by decide +kernel
theorem dX6_seat_75 : decode cX6_seat 75 = .ok (.iastore, 1) := by decide +kernel
theorem dX6_seat_76 : decode cX6_seat 76 = .ok (.aload_n 0, 1) := by decide +kernel
theorem dX6_seat_77 : decode cX6_seat 77 = .ok (.getfield 7, 3) := by decide +kernel
theorem dX6_seat_80 : decode cX6_seat 80 = .ok (.bipush 41, 2) := by decide +kernel
theorem dX6_seat_82 : decode cX6_seat 82 = .ok (.iload 4, 2) := by decide +kernel
theorem dX6_seat_84 : decode cX6_seat 84 = .ok (.iadd, 1) := by decide +kernel
theorem dX6_seat_85 : decode cX6_seat 85 = .ok (.iload_n 2, 1) := by decide +kernel
theorem dX6_seat_86 : decode cX6_seat 86 = .ok (.iastore, 1) := by decide +kernel
theorem dX6_seat_87 : decode cX6_seat 87 = .ok (.aload_n 0, 1) := by decide +kernel
theorem dX6_seat_88 : decode cX6_seat 88 = .ok (.getfield 7, 3) := by decide +kernel
theorem dX6_seat_91 : decode cX6_seat 91 = .ok (.bipush 25, 2) := by decide +kernel
theorem dX6_seat_93 : decode cX6_seat 93 = .ok (.iload 4, 2) := by decide +kernel
theorem dX6_seat_95 : decode cX6_seat 95 = .ok (.iadd, 1) := by decide +kernel
theorem dX6_seat_96 : decode cX6_seat 96 = .ok (.iload_n 3, 1) := by decide +kernel
theorem dX6_seat_97 : decode cX6_seat 97 = .ok (.iastore, 1) := by decide +kernel
theorem dX6_seat_98 : decode cX6_seat 98 = .ok (.aload_n 0, 1) := by decide +kernel
theorem dX6_seat_99 : decode cX6_seat 99 = .ok (.getfield 7, 3) := by decide +kernel
theorem dX6_seat_102 : decode cX6_seat 102 = .ok (.bipush 33, 2) := by decide +kernel
theorem dX6_seat_104 : decode cX6_seat 104 = .ok (.dup2, 1) := by decide +kernel
theorem dX6_seat_105 : decode cX6_seat 105 = .ok (.iaload, 1) := by decide +kernel
theorem dX6_seat_106 : decode cX6_seat 106 = .ok (.iconst 1, 1) := by decide +kernel
theorem dX6_seat_107 : decode cX6_seat 107 = .ok (.iadd, 1) := by decide +kernel
theorem dX6_seat_108 : decode cX6_seat 108 = .ok (.iastore, 1) := by decide +kernel
theorem dX6_seat_109 : decode cX6_seat 109 = .ok (.aload_n 0, 1) := by decide +kernel
theorem dX6_seat_110 : decode cX6_seat 110 = .ok (.getfield 7, 3) := by decide +kernel
theorem dX6_seat_113 : decode cX6_seat 113 = .ok (.sipush 134, 3) := by decide +kernel
theorem dX6_seat_116 : decode cX6_seat 116 = .ok (.iconst 0, 1) := by decide +kernel
theorem dX6_seat_117 : decode cX6_seat 117 = .ok (.iastore, 1) := by decide +kernel
theorem dX6_seat_118 : decode cX6_seat 118 = .ok (.iload 4, 2) := by decide +kernel
theorem dX6_seat_120 : decode cX6_seat 120 = .ok (.ireturn, 1) := by decide +kernel
theorem dX6_canon_0 : decode cX6_canon 0 = .ok (.iload_n 1, 1) := by decide +kernel
theorem dX6_canon_1 : decode cX6_canon 1 = .ok (.i2l, 1) := by decide +kernel
theorem dX6_canon_2 : decode cX6_canon 2 = .ok (.lconst 0, 1) := by decide +kernel
theorem dX6_canon_3 : decode cX6_canon 3 = .ok (.ldc2_w 92, 3) := by decide +kernel
theorem dX6_canon_6 : decode cX6_canon 6 = .ok (.invokestatic 86, 3) := by decide +kernel
theorem dX6_canon_9 : decode cX6_canon 9 = .ok (.ifCond .eq 15, 3) := by decide +kernel
theorem dX6_canon_12 : decode cX6_canon 12 = .ok (.iload_n 2, 1) := by decide +kernel
theorem dX6_canon_13 : decode cX6_canon 13 = .ok (.i2l, 1) := by decide +kernel
theorem dX6_canon_14 : decode cX6_canon 14 = .ok (.lconst 1, 1) := by decide +kernel
theorem dX6_canon_15 : decode cX6_canon 15 = .ok (.ldc2_w 104, 3) := by decide +kernel
theorem dX6_canon_18 : decode cX6_canon 18 = .ok (.invokestatic 86, 3) := by decide +kernel
theorem dX6_canon_21 : decode cX6_canon 21 = .ok (.ifCond .ne 8, 3) := by decide +kernel
theorem dX6_canon_24 : decode cX6_canon 24 = .ok (.aload_n 0, 1) := by decide +kernel
theorem dX6_canon_25 : decode cX6_canon 25 = .ok (.invokevirtual 100, 3) := by decide +kernel
theorem dX6_canon_28 : decode cX6_canon 28 = .ok (.ireturn, 1) := by decide +kernel
theorem dX6_canon_29 : decode cX6_canon 29 = .ok (.aload_n 0, 1) := by decide +kernel
theorem dX6_canon_30 : decode cX6_canon 30 = .ok (.getfield 7, 3) := by decide +kernel
theorem dX6_canon_33 : decode cX6_canon 33 = .ok (.bipush 48, 2) := by decide +kernel
theorem dX6_canon_35 : decode cX6_canon 35 = .ok (.iaload, 1) := by decide +kernel
theorem dX6_canon_36 : decode cX6_canon 36 = .ok (.iconst 5, 1) := by decide +kernel
theorem dX6_canon_37 : decode cX6_canon 37 = .ok (.if_icmp .ne 11, 3) := by decide +kernel
theorem dX6_canon_40 : decode cX6_canon 40 = .ok (.aload_n 0, 1) := by decide +kernel
theorem dX6_canon_41 : decode cX6_canon 41 = .ok (.iconst 2, 1) := by decide +kernel
theorem dX6_canon_42 : decode cX6_canon 42 = .ok (.bipush (-4), 2) := by decide +kernel
theorem dX6_canon_44 : decode cX6_canon 44 = .ok (.invokevirtual 52, 3) := by decide +kernel
theorem dX6_canon_47 : decode cX6_canon 47 = .ok (.ireturn, 1) := by decide +kernel
theorem dX6_canon_48 : decode cX6_canon 48 = .ok (.aload_n 0, 1) := by decide +kernel
theorem dX6_canon_49 : decode cX6_canon 49 = .ok (.getfield 7, 3) := by decide +kernel
theorem dX6_canon_52 : decode cX6_canon 52 = .ok (.bipush 48, 2) := by decide +kernel
theorem dX6_canon_54 : decode cX6_canon 54 = .ok (.iaload, 1) := by decide +kernel
theorem dX6_canon_55 : decode cX6_canon 55 = .ok (.istore_n 3, 1) := by decide +kernel
theorem dX6_canon_56 : decode cX6_canon 56 = .ok (.aload_n 0, 1) := by decide +kernel
theorem dX6_canon_57 : decode cX6_canon 57 = .ok (.getfield 7, 3) := by decide +kernel
theorem dX6_canon_60 : decode cX6_canon 60 = .ok (.bipush 49, 2) := by decide +kernel
theorem dX6_canon_62 : decode cX6_canon 62 = .ok (.iload_n 3, 1) := by decide +kernel
theorem dX6_canon_63 : decode cX6_canon 63 = .ok (.iadd, 1) := by decide +kernel
theorem dX6_canon_64 : decode cX6_canon 64 = .ok (.iload_n 1, 1) := by decide +kernel
theorem dX6_canon_65 : decode cX6_canon 65 = .ok (.iastore, 1) := by decide +kernel
theorem dX6_canon_66 : decode cX6_canon 66 = .ok (.aload_n 0, 1) := by decide +kernel
theorem dX6_canon_67 : decode cX6_canon 67 = .ok (.getfield 7, 3) := by decide +kernel
theorem dX6_canon_70 : decode cX6_canon 70 = .ok (.bipush 54, 2) := by decide +kernel
theorem dX6_canon_72 : decode cX6_canon 72 = .ok (.iload_n 3, 1) := by decide +kernel
theorem dX6_canon_73 : decode cX6_canon 73 = .ok (.iadd, 1) := by decide +kernel
theorem dX6_canon_74 : decode cX6_canon 74 = .ok (.iload_n 2, 1) := by decide +kernel
theorem dX6_canon_75 : decode cX6_canon 75 = .ok (.iastore, 1) := by decide +kernel
theorem dX6_canon_76 : decode cX6_canon 76 = .ok (.aload_n 0, 1) := by decide +kernel
theorem dX6_canon_77 : decode cX6_canon 77 = .ok (.getfield 7, 3) := by decide +kernel
theorem dX6_canon_80 : decode cX6_canon 80 = .ok (.bipush 48, 2) := by decide +kernel
theorem dX6_canon_82 : decode cX6_canon 82 = .ok (.dup2, 1) := by decide +kernel
theorem dX6_canon_83 : decode cX6_canon 83 = .ok (.iaload, 1) := by decide +kernel
theorem dX6_canon_84 : decode cX6_canon 84 = .ok (.iconst 1, 1) := by decide +kernel
theorem dX6_canon_85 : decode cX6_canon 85 = .ok (.iadd, 1) := by decide +kernel
theorem dX6_canon_86 : decode cX6_canon 86 = .ok (.iastore, 1) := by decide +kernel
theorem dX6_canon_87 : decode cX6_canon 87 = .ok (.aload_n 0, 1) := by decide +kernel
theorem dX6_canon_88 : decode cX6_canon 88 = .ok (.getfield 7, 3) := by decide +kernel
theorem dX6_canon_91 : decode cX6_canon 91 = .ok (.sipush 134, 3) := by decide +kernel
theorem dX6_canon_94 : decode cX6_canon 94 = .ok (.iconst 0, 1) := by decide +kernel
theorem dX6_canon_95 : decode cX6_canon 95 = .ok (.iastore, 1) := by decide +kernel
theorem dX6_canon_96 : decode cX6_canon 96 = .ok (.iload_n 3, 1) := by decide +kernel
theorem dX6_canon_97 : decode cX6_canon 97 = .ok (.ireturn, 1) := by decide +kernel
theorem dX6_type_0 : decode cX6_type 0 = .ok (.iload_n 1, 1) := by decide +kernel
theorem dX6_type_1 : decode cX6_type 1 = .ok (.i2l, 1) := by decide +kernel
theorem dX6_type_2 : decode cX6_type 2 = .ok (.lconst 0, 1) := by decide +kernel
theorem dX6_type_3 : decode cX6_type 3 = .ok (.ldc2_w 106, 3) := by decide +kernel
theorem dX6_type_6 : decode cX6_type 6 = .ok (.invokestatic 86, 3) := by decide +kernel
theorem dX6_type_9 : decode cX6_type 9 = .ok (.ifCond .ne 8, 3) := by decide +kernel
theorem dX6_type_12 : decode cX6_type 12 = .ok (.aload_n 0, 1) := by decide +kernel
theorem dX6_type_13 : decode cX6_type 13 = .ok (.invokevirtual 100, 3) := by decide +kernel
theorem dX6_type_16 : decode cX6_type 16 = .ok (.ireturn, 1) := by decide +kernel
theorem dX6_type_17 : decode cX6_type 17 = .ok (.aload_n 0, 1) := by decide +kernel
theorem dX6_type_18 : decode cX6_type 18 = .ok (.getfield 108, 3) := by decide +kernel
theorem dX6_type_21 : decode cX6_type 21 = .ok (.sipush 150, 3) := by decide +kernel
theorem dX6_type_24 : decode cX6_type 24 = .ok (.if_icmp .ne 11, 3) := by decide +kernel
theorem dX6_type_27 : decode cX6_type 27 = .ok (.aload_n 0, 1) := by decide +kernel
theorem dX6_type_28 : decode cX6_type 28 = .ok (.iconst 2, 1) := by decide +kernel
theorem dX6_type_29 : decode cX6_type 29 = .ok (.bipush (-4), 2) := by decide +kernel
theorem dX6_type_31 : decode cX6_type 31 = .ok (.invokevirtual 52, 3) := by decide +kernel
theorem dX6_type_34 : decode cX6_type 34 = .ok (.ireturn, 1) := by decide +kernel
theorem dX6_type_35 : decode cX6_type 35 = .ok (.aload_n 0, 1) := by decide +kernel
theorem dX6_type_36 : decode cX6_type 36 = .ok (.getfield 26, 3) := by decide +kernel
theorem dX6_type_39 : decode cX6_type 39 = .ok (.aload_n 0, 1) := by decide +kernel
theorem dX6_type_40 : decode cX6_type 40 = .ok (.getfield 108, 3) := by decide +kernel
theorem dX6_type_43 : decode cX6_type 43 = .ok (.iload_n 1, 1) := by decide +kernel
theorem dX6_type_44 : decode cX6_type 44 = .ok (.iastore, 1) := by decide +kernel
theorem dX6_type_45 : decode cX6_type 45 = .ok (.aload_n 0, 1) := by decide +kernel
theorem dX6_type_46 : decode cX6_type 46 = .ok (.dup, 1) := by decide +kernel
theorem dX6_type_47 : decode cX6_type 47 = .ok (.getfield 108, 3) := by decide +kernel
theorem dX6_type_50 : decode cX6_type 50 = .ok (.iconst 1, 1) := by decide +kernel
theorem dX6_type_51 : decode cX6_type 51 = .ok (.iadd, 1) := by decide +kernel
theorem dX6_type_52 : decode cX6_type 52 = .ok (.putfield 108, 3) := by decide +kernel
theorem dX6_type_55 : decode cX6_type 55 = .ok (.aload_n 0, 1) := by decide +kernel
theorem dX6_type_56 : decode cX6_type 56 = .ok (.getfield 108, 3) := by decide +kernel
theorem dX6_type_59 : decode cX6_type 59 = .ok (.ireturn, 1) := by decide +kernel
theorem dX6_clear_0 : decode cX6_clear 0 = .ok (.aload_n 0, 1) := by decide +kernel
theorem dX6_clear_1 : decode cX6_clear 1 = .ok (.getfield 108, 3) := by decide +kernel
theorem dX6_clear_4 : decode cX6_clear 4 = .ok (.istore_n 1, 1) := by decide +kernel
theorem dX6_clear_5 : decode cX6_clear 5 = .ok (.aload_n 0, 1) := by decide +kernel
theorem dX6_clear_6 : decode cX6_clear 6 = .ok (.iconst 0, 1) := by decide +kernel
theorem dX6_clear_7 : decode cX6_clear 7 = .ok (.putfield 108, 3) := by decide +kernel
theorem dX6_clear_10 : decode cX6_clear 10 = .ok (.iload_n 1, 1) := by decide +kernel
theorem dX6_clear_11 : decode cX6_clear 11 = .ok (.ireturn, 1) := by decide +kernel
theorem dX6_isLetter_0 : decode cX6_isLetter 0 = .ok (.aload_n 0, 1) := by decide +kernel
theorem dX6_isLetter_1 : decode cX6_isLetter 1 = .ok (.getfield 112, 3) := by decide +kernel
theorem dX6_isLetter_4 : decode cX6_isLetter 4 = .ok (.aload_n 0, 1) := by decide +kernel
theorem dX6_isLetter_5 : decode cX6_isLetter 5 = .ok (.getfield 108, 3) := by decide +kernel
theorem dX6_isLetter_8 : decode cX6_isLetter 8 = .ok (.if_icmp .ge 29, 3) := by decide +kernel
theorem dX6_isLetter_11 : decode cX6_isLetter 11 = .ok (.aload_n 0, 1) := by decide +kernel
theorem dX6_isLetter_12 : decode cX6_isLetter 12 = .ok (.getfield 26, 3) := by decide +kernel
theorem dX6_isLetter_15 : decode cX6_isLetter 15 = .ok (.aload_n 0, 1) := by decide +kernel
theorem dX6_isLetter_16 : decode cX6_isLetter 16 = .ok (.getfield 112, 3) := by decide +kernel
theorem dX6_isLetter_19 : decode cX6_isLetter 19 = .ok (.iaload, 1) := by decide +kernel
theorem dX6_isLetter_20 : decode cX6_isLetter 20 = .ok (.i2l, 1) := by decide +kernel
theorem dX6_isLetter_21 : decode cX6_isLetter 21 = .ok (.ldc2_w 115, 3) := by decide +kernel
theorem dX6_isLetter_24 : decode cX6_isLetter 24 = .ok (.ldc2_w 117, 3) := by decide +kernel
theorem dX6_isLetter_27 : decode cX6_isLetter 27 = .ok (.invokestatic 86, 3) := by decide +kernel
theorem dX6_isLetter_30 : decode cX6_isLetter 30 = .ok (.ifCond .eq 7, 3) := by decide +kernel
theorem dX6_isLetter_33 : decode cX6_isLetter 33 = .ok (.iconst 1, 1) := by decide +kernel
theorem dX6_isLetter_34 : decode cX6_isLetter 34 = .ok (.goto 4, 3) := by decide +kernel
theorem dX6_isLetter_37 : decode cX6_isLetter 37 = .ok (.iconst 0, 1) := by decide +kernel
theorem dX6_isLetter_38 : decode cX6_isLetter 38 = .ok (.ireturn, 1) := by decide +kernel
theorem dX6_isFigure_0 : decode cX6_isFigure 0 = .ok (.aload_n 0, 1) := by decide +kernel
theorem dX6_isFigure_1 : decode cX6_isFigure 1 = .ok (.getfield 112, 3) := by decide +kernel
theorem dX6_isFigure_4 : decode cX6_isFigure 4 = .ok (.aload_n 0, 1) := by decide +kernel
theorem dX6_isFigure_5 : decode cX6_isFigure 5 = .ok (.getfield 108, 3) := by decide +kernel
theorem dX6_isFigure_8 : decode cX6_isFigure 8 = .ok (.if_icmp .ge 29, 3) := by decide +kernel
theorem dX6_isFigure_11 : decode cX6_isFigure 11 = .ok (.aload_n 0, 1) := by decide +kernel
theorem dX6_isFigure_12 : decode cX6_isFigure 12 = .ok (.getfield 26, 3) := by decide +kernel
theorem dX6_isFigure_15 : decode cX6_isFigure 15 = .ok (.aload_n 0, 1) := by decide +kernel
theorem dX6_isFigure_16 : decode cX6_isFigure 16 = .ok (.getfield 112, 3) := by decide +kernel
theorem dX6_isFigure_19 : decode cX6_isFigure 19 = .ok (.iaload, 1) := by decide +kernel
theorem dX6_isFigure_20 : decode cX6_isFigure 20 = .ok (.i2l, 1) := by decide +kernel
theorem dX6_isFigure_21 : decode cX6_isFigure 21 = .ok (.ldc2_w 119, 3) := by decide +kernel
theorem dX6_isFigure_24 : decode cX6_isFigure 24 = .ok (.ldc2_w 121, 3) := by decide +kernel
theorem dX6_isFigure_27 : decode cX6_isFigure 27 = .ok (.invokestatic 86, 3) := by decide +kernel
theorem dX6_isFigure_30 : decode cX6_isFigure 30 = .ok (.ifCond .eq 7, 3) := by decide +kernel
theorem dX6_isFigure_33 : decode cX6_isFigure 33 = .ok (.iconst 1, 1) := by decide +kernel
theorem dX6_isFigure_34 : decode cX6_isFigure 34 = .ok (.goto 4, 3) := by decide +kernel
theorem dX6_isFigure_37 : decode cX6_isFigure 37 = .ok (.iconst 0, 1) := by decide +kernel
theorem dX6_isFigure_38 : decode cX6_isFigure 38 = .ok (.ireturn, 1) := by decide +kernel
theorem dX6_step_0 : decode cX6_step 0 = .ok (.aload_n 0, 1) := by decide +kernel
theorem dX6_step_1 : decode cX6_step 1 = .ok (.getfield 112, 3) := by decide +kernel
theorem dX6_step_4 : decode cX6_step 4 = .ok (.aload_n 0, 1) := by decide +kernel
theorem dX6_step_5 : decode cX6_step 5 = .ok (.getfield 108, 3) := by decide +kernel
theorem dX6_step_8 : decode cX6_step 8 = .ok (.if_icmp .ge 30, 3) := by decide +kernel
theorem dX6_step_11 : decode cX6_step 11 = .ok (.aload_n 0, 1) := by decide +kernel
theorem dX6_step_12 : decode cX6_step 12 = .ok (.getfield 26, 3) := by decide +kernel
theorem dX6_step_15 : decode cX6_step 15 = .ok (.aload_n 0, 1) := by decide +kernel
theorem dX6_step_16 : decode cX6_step 16 = .ok (.getfield 112, 3) := by decide +kernel
theorem dX6_step_19 : decode cX6_step 19 = .ok (.iaload, 1) := by decide +kernel
theorem dX6_step_20 : decode cX6_step 20 = .ok (.bipush 32, 2) := by decide +kernel
theorem dX6_step_22 : decode cX6_step 22 = .ok (.if_icmp .ne 16, 3) := by decide +kernel
theorem dX6_step_25 : decode cX6_step 25 = .ok (.aload_n 0, 1) := by decide +kernel
theorem dX6_step_26 : decode cX6_step 26 = .ok (.dup, 1) := by decide +kernel
theorem dX6_step_27 : decode cX6_step 27 = .ok (.getfield 112, 3) := by decide +kernel
theorem dX6_step_30 : decode cX6_step 30 = .ok (.iconst 1, 1) := by decide +kernel
theorem dX6_step_31 : decode cX6_step 31 = .ok (.iadd, 1) := by decide +kernel
theorem dX6_step_32 : decode cX6_step 32 = .ok (.putfield 112, 3) := by decide +kernel
theorem dX6_step_35 : decode cX6_step 35 = .ok (.goto (-35), 3) := by decide +kernel
theorem dX6_step_38 : decode cX6_step 38 = .ok (.aload_n 0, 1) := by decide +kernel
theorem dX6_step_39 : decode cX6_step 39 = .ok (.aload_n 0, 1) := by decide +kernel
theorem dX6_step_40 : decode cX6_step 40 = .ok (.getfield 112, 3) := by decide +kernel
theorem dX6_step_43 : decode cX6_step 43 = .ok (.putfield 123, 3) := by decide +kernel
theorem dX6_step_46 : decode cX6_step 46 = .ok (.aload_n 0, 1) := by decide +kernel
theorem dX6_step_47 : decode cX6_step 47 = .ok (.iconst 0, 1) := by decide +kernel
theorem dX6_step_48 : decode cX6_step 48 = .ok (.putfield 126, 3) := by decide +kernel
theorem dX6_step_51 : decode cX6_step 51 = .ok (.aload_n 0, 1) := by decide +kernel
theorem dX6_step_52 : decode cX6_step 52 = .ok (.iconst 0, 1) := by decide +kernel
theorem dX6_step_53 : decode cX6_step 53 = .ok (.putfield 129, 3) := by decide +kernel
theorem dX6_step_56 : decode cX6_step 56 = .ok (.aload_n 0, 1) := by decide +kernel
theorem dX6_step_57 : decode cX6_step 57 = .ok (.getfield 112, 3) := by decide +kernel
theorem dX6_step_60 : decode cX6_step 60 = .ok (.aload_n 0, 1) := by decide +kernel
theorem dX6_step_61 : decode cX6_step 61 = .ok (.getfield 108, 3) := by decide +kernel
theorem dX6_step_64 : decode cX6_step 64 = .ok (.if_icmp .ne 11, 3) := by decide +kernel
theorem dX6_step_67 : decode cX6_step 67 = .ok (.aload_n 0, 1) := by decide +kernel
theorem dX6_step_68 : decode cX6_step 68 = .ok (.iconst 0, 1) := by decide +kernel
theorem dX6_step_69 : decode cX6_step 69 = .ok (.putfield 132, 3) := by decide +kernel
theorem dX6_step_72 : decode cX6_step 72 = .ok (.goto 152, 3) := by decide +kernel
theorem dX6_step_75 : decode cX6_step 75 = .ok (.aload_n 0, 1) := by decide +kernel
theorem dX6_step_76 : decode cX6_step 76 = .ok (.invokevirtual 135, 3) := by decide +kernel
theorem dX6_step_79 : decode cX6_step 79 = .ok (.ifCond .eq 15, 3) := by decide +kernel
theorem dX6_step_82 : decode cX6_step 82 = .ok (.aload_n 0, 1) := by decide +kernel
theorem dX6_step_83 : decode cX6_step 83 = .ok (.iconst 1, 1) := by decide +kernel
theorem dX6_step_84 : decode cX6_step 84 = .ok (.putfield 132, 3) := by decide +kernel
theorem dX6_step_87 : decode cX6_step 87 = .ok (.aload_n 0, 1) := by decide +kernel
theorem dX6_step_88 : decode cX6_step 88 = .ok (.invokevirtual 139, 3) := by decide +kernel
theorem dX6_step_91 : decode cX6_step 91 = .ok (.goto 133, 3) := by decide +kernel
theorem dX6_step_94 : decode cX6_step 94 = .ok (.aload_n 0, 1) := by decide +kernel
theorem dX6_step_95 : decode cX6_step 95 = .ok (.invokevirtual 142, 3) := by decide +kernel
theorem dX6_step_98 : decode cX6_step 98 = .ok (.ifCond .eq 93, 3) := by decide +kernel
theorem dX6_step_101 : decode cX6_step 101 = .ok (.aload_n 0, 1) := by decide +kernel
theorem dX6_step_102 : decode cX6_step 102 = .ok (.iconst 2, 1) := by decide +kernel
theorem dX6_step_103 : decode cX6_step 103 = .ok (.putfield 132, 3) := by decide +kernel
theorem dX6_step_106 : decode cX6_step 106 = .ok (.aload_n 0, 1) := by decide +kernel
theorem dX6_step_107 : decode cX6_step 107 = .ok (.invokevirtual 142, 3) := by decide +kernel
theorem dX6_step_110 : decode cX6_step 110 = .ok (.ifCond .eq 56, 3) := by decide +kernel
theorem dX6_step_113 : decode cX6_step 113 = .ok (.aload_n 0, 1) := by decide +kernel
theorem dX6_step_114 : decode cX6_step 114 = .ok (.aload_n 0, 1) := by decide +kernel
theorem dX6_step_115 : decode cX6_step 115 = .ok (.getfield 129, 3) := by decide +kernel
theorem dX6_step_118 : decode cX6_step 118 = .ok (.bipush 99, 2) := by decide +kernel
theorem dX6_step_120 : decode cX6_step 120 = .ok (.if_icmp .le 10, 3) := by decide +kernel
theorem dX6_step_123 : decode cX6_step 123 = .ok (.aload_n 0, 1) := by decide +kernel
theorem dX6_step_124 : decode cX6_step 124 = .ok (.getfield 129, 3) := by decide +kernel
theorem dX6_step_127 : decode cX6_step 127 = .ok (.goto 23, 3) := by decide +kernel
theorem dX6_step_130 : decode cX6_step 130 = .ok (.bipush 10, 2) := by decide +kernel
theorem dX6_step_132 : decode cX6_step 132 = .ok (.aload_n 0, 1) := by decide +kernel
theorem dX6_step_133 : decode cX6_step 133 = .ok (.getfield 129, 3) := by decide +kernel
theorem dX6_step_136 : decode cX6_step 136 = .ok (.imul, 1) := by decide +kernel
theorem dX6_step_137 : decode cX6_step 137 = .ok (.aload_n 0, 1) := by decide +kernel
theorem dX6_step_138 : decode cX6_step 138 = .ok (.getfield 26, 3) := by decide +kernel
theorem dX6_step_141 : decode cX6_step 141 = .ok (.aload_n 0, 1) := by decide +kernel
theorem dX6_step_142 : decode cX6_step 142 = .ok (.getfield 112, 3) := by decide +kernel
theorem dX6_step_145 : decode cX6_step 145 = .ok (.iaload, 1) := by decide +kernel
theorem dX6_step_146 : decode cX6_step 146 = .ok (.iadd, 1) := by decide +kernel
theorem dX6_step_147 : decode cX6_step 147 = .ok (.bipush 48, 2) := by decide +kernel
theorem dX6_step_149 : decode cX6_step 149 = .ok (.isub, 1) := by decide +kernel
theorem dX6_step_150 : decode cX6_step 150 = .ok (.putfield 129, 3) := by decide +kernel
theorem dX6_step_153 : decode cX6_step 153 = .ok (.aload_n 0, 1) := by decide +kernel
theorem dX6_step_154 : decode cX6_step 154 = .ok (.dup, 1) := by decide +kernel
theorem dX6_step_155 : decode cX6_step 155 = .ok (.getfield 112, 3) := by decide +kernel
theorem dX6_step_158 : decode cX6_step 158 = .ok (.iconst 1, 1) := by decide +kernel
theorem dX6_step_159 : decode cX6_step 159 = .ok (.iadd, 1) := by decide +kernel
theorem dX6_step_160 : decode cX6_step 160 = .ok (.putfield 112, 3) := by decide +kernel
theorem dX6_step_163 : decode cX6_step 163 = .ok (.goto (-57), 3) := by decide +kernel
theorem dX6_step_166 : decode cX6_step 166 = .ok (.aload_n 0, 1) := by decide +kernel
theorem dX6_step_167 : decode cX6_step 167 = .ok (.aload_n 0, 1) := by decide +kernel
theorem dX6_step_168 : decode cX6_step 168 = .ok (.getfield 112, 3) := by decide +kernel
theorem dX6_step_171 : decode cX6_step 171 = .ok (.aload_n 0, 1) := by decide +kernel
theorem dX6_step_172 : decode cX6_step 172 = .ok (.getfield 123, 3) := by decide +kernel
theorem dX6_step_175 : decode cX6_step 175 = .ok (.isub, 1) := by decide +kernel
theorem dX6_step_176 : decode cX6_step 176 = .ok (.iconst 2, 1) := by decide +kernel
theorem dX6_step_177 : decode cX6_step 177 = .ok (.if_icmp .le 7, 3) := by decide +kernel
theorem dX6_step_180 : decode cX6_step 180 = .ok (.iconst 4, 1) := by decide +kernel
theorem dX6_step_181 : decode cX6_step 181 = .ok (.goto 4, 3) := by decide +kernel
theorem dX6_step_184 : decode cX6_step 184 = .ok (.iconst 2, 1) := by decide +kernel
theorem dX6_step_185 : decode cX6_step 185 = .ok (.putfield 132, 3) := by decide +kernel
theorem dX6_step_188 : decode cX6_step 188 = .ok (.goto 36, 3) := by decide +kernel
theorem dX6_step_191 : decode cX6_step 191 = .ok (.aload_n 0, 1) := by decide +kernel
theorem dX6_step_192 : decode cX6_step 192 = .ok (.aload_n 0, 1) := by decide +kernel
theorem dX6_step_193 : decode cX6_step 193 = .ok (.getfield 26, 3) := by decide +kernel
theorem dX6_step_196 : decode cX6_step 196 = .ok (.aload_n 0, 1) := by decide +kernel
end
section
theorem dX6_step_197 : decode cX6_step 197 = .ok (.getfield 112, 3) := by decide +kernel
theorem dX6_step_200 : decode cX6_step 200 = .ok (.iaload, 1) := by decide +kernel
theorem dX6_step_201 : decode cX6_step 201 = .ok (.bipush 59, 2) := by decide +kernel
theorem dX6_step_203 : decode cX6_step 203 = .ok (.if_icmp .ne 7, 3) := by decide +kernel
theorem dX6_step_206 : decode cX6_step 206 = .ok (.iconst 3, 1) := by decide +kernel
theorem dX6_step_207 : decode cX6_step 207 = .ok (.goto 4, 3) := by decide +kernel
theorem dX6_step_210 : decode cX6_step 210 = .ok (.iconst 4, 1) := by decide +kernel
theorem dX6_step_211 : decode cX6_step 211 = .ok (.putfield 132, 3) := by decide +kernel
theorem dX6_step_214 : decode cX6_step 214 = .ok (.aload_n 0, 1) := by decide +kernel
theorem dX6_step_215 : decode cX6_step 215 = .ok (.dup, 1) := by decide +kernel
theorem dX6_step_216 : decode cX6_step 216 = .ok (.getfield 112, 3) := by decide +kernel
theorem dX6_step_219 : decode cX6_step 219 = .ok (.iconst 1, 1) := by decide +kernel
theorem dX6_step_220 : decode cX6_step 220 = .ok (.iadd, 1) := by decide +kernel
theorem dX6_step_221 : decode cX6_step 221 = .ok (.putfield 112, 3) := by decide +kernel
theorem dX6_step_224 : decode cX6_step 224 = .ok (.return_, 1) := by decide +kernel
theorem dX6_readsLetters_0 : decode cX6_readsLetters 0 = .ok (.aload_n 0, 1) := by decide +kernel
theorem dX6_readsLetters_1 : decode cX6_readsLetters 1 = .ok (.iconst 0, 1) := by decide +kernel
theorem dX6_readsLetters_2 : decode cX6_readsLetters 2 = .ok (.putfield 145, 3) := by decide +kernel
theorem dX6_readsLetters_5 : decode cX6_readsLetters 5 = .ok (.aload_n 0, 1) := by decide +kernel
theorem dX6_readsLetters_6 : decode cX6_readsLetters 6 = .ok (.invokevirtual 135, 3) := by decide +kernel
theorem dX6_readsLetters_9 : decode cX6_readsLetters 9 = .ok (.ifCond .eq 125, 3) := by decide +kernel
theorem dX6_readsLetters_12 : decode cX6_readsLetters 12 = .ok (.aload_n 0, 1) := by decide +kernel
theorem dX6_readsLetters_13 : decode cX6_readsLetters 13 = .ok (.aload_n 0, 1) := by decide +kernel
theorem dX6_readsLetters_14 : decode cX6_readsLetters 14 = .ok (.getfield 145, 3) := by decide +kernel
theorem dX6_readsLetters_17 : decode cX6_readsLetters 17 = .ok (.ifCond .ne 17, 3) := by decide +kernel
theorem dX6_readsLetters_20 : decode cX6_readsLetters 20 = .ok (.aload_n 0, 1) := by decide +kernel
theorem dX6_readsLetters_21 : decode cX6_readsLetters 21 = .ok (.getfield 112, 3) := by decide +kernel
theorem dX6_readsLetters_24 : decode cX6_readsLetters 24 = .ok (.aload_n 0, 1) := by decide +kernel
theorem dX6_readsLetters_25 : decode cX6_readsLetters 25 = .ok (.getfield 123, 3) := by decide +kernel
theorem dX6_readsLetters_28 : decode cX6_readsLetters 28 = .ok (.isub, 1) := by decide +kernel
theorem dX6_readsLetters_29 : decode cX6_readsLetters 29 = .ok (.bipush 7, 2) := by decide +kernel
theorem dX6_readsLetters_31 : decode cX6_readsLetters 31 = .ok (.if_icmp .lt 7, 3) := by decide +kernel
theorem dX6_readsLetters_34 : decode cX6_readsLetters 34 = .ok (.iconst 1, 1) := by decide +kernel
theorem dX6_readsLetters_35 : decode cX6_readsLetters 35 = .ok (.goto 4, 3) := by decide +kernel
theorem dX6_readsLetters_38 : decode cX6_readsLetters 38 = .ok (.iconst 0, 1) := by decide +kernel
theorem dX6_readsLetters_39 : decode cX6_readsLetters 39 = .ok (.putfield 145, 3) := by decide +kernel
theorem dX6_readsLetters_42 : decode cX6_readsLetters 42 = .ok (.aload_n 0, 1) := by decide +kernel
theorem dX6_readsLetters_43 : decode cX6_readsLetters 43 = .ok (.aload_n 0, 1) := by decide +kernel
theorem dX6_readsLetters_44 : decode cX6_readsLetters 44 = .ok (.getfield 112, 3) := by decide +kernel
theorem dX6_readsLetters_47 : decode cX6_readsLetters 47 = .ok (.aload_n 0, 1) := by decide +kernel
theorem dX6_readsLetters_48 : decode cX6_readsLetters 48 = .ok (.getfield 123, 3) := by decide +kernel
theorem dX6_readsLetters_51 : decode cX6_readsLetters 51 = .ok (.isub, 1) := by decide +kernel
theorem dX6_readsLetters_52 : decode cX6_readsLetters 52 = .ok (.bipush 6, 2) := by decide +kernel
theorem dX6_readsLetters_54 : decode cX6_readsLetters 54 = .ok (.if_icmp .ge 26, 3) := by decide +kernel
theorem dX6_readsLetters_57 : decode cX6_readsLetters 57 = .ok (.bipush 32, 2) := by decide +kernel
theorem dX6_readsLetters_59 : decode cX6_readsLetters 59 = .ok (.aload_n 0, 1) := by decide +kernel
theorem dX6_readsLetters_60 : decode cX6_readsLetters 60 = .ok (.getfield 126, 3) := by decide +kernel
theorem dX6_readsLetters_63 : decode cX6_readsLetters 63 = .ok (.imul, 1) := by decide +kernel
theorem dX6_readsLetters_64 : decode cX6_readsLetters 64 = .ok (.aload_n 0, 1) := by decide +kernel
theorem dX6_readsLetters_65 : decode cX6_readsLetters 65 = .ok (.getfield 26, 3) := by decide +kernel
theorem dX6_readsLetters_68 : decode cX6_readsLetters 68 = .ok (.aload_n 0, 1) := by decide +kernel
theorem dX6_readsLetters_69 : decode cX6_readsLetters 69 = .ok (.getfield 112, 3) := by decide +kernel
theorem dX6_readsLetters_72 : decode cX6_readsLetters 72 = .ok (.iaload, 1) := by decide +kernel
theorem dX6_readsLetters_73 : decode cX6_readsLetters 73 = .ok (.iadd, 1) := by decide +kernel
theorem dX6_readsLetters_74 : decode cX6_readsLetters 74 = .ok (.bipush 96, 2) := by decide +kernel
theorem dX6_readsLetters_76 : decode cX6_readsLetters 76 = .ok (.isub, 1) := by decide +kernel
theorem dX6_readsLetters_77 : decode cX6_readsLetters 77 = .ok (.goto 7, 3) := by decide +kernel
theorem dX6_readsLetters_80 : decode cX6_readsLetters 80 = .ok (.aload_n 0, 1) := by decide +kernel
theorem dX6_readsLetters_81 : decode cX6_readsLetters 81 = .ok (.getfield 126, 3) := by decide +kernel
theorem dX6_readsLetters_84 : decode cX6_readsLetters 84 = .ok (.putfield 126, 3) := by decide +kernel
theorem dX6_readsLetters_87 : decode cX6_readsLetters 87 = .ok (.aload_n 0, 1) := by decide +kernel
theorem dX6_readsLetters_88 : decode cX6_readsLetters 88 = .ok (.aload_n 0, 1) := by decide +kernel
theorem dX6_readsLetters_89 : decode cX6_readsLetters 89 = .ok (.getfield 112, 3) := by decide +kernel
theorem dX6_readsLetters_92 : decode cX6_readsLetters 92 = .ok (.aload_n 0, 1) := by decide +kernel
theorem dX6_readsLetters_93 : decode cX6_readsLetters 93 = .ok (.getfield 123, 3) := by decide +kernel
theorem dX6_readsLetters_96 : decode cX6_readsLetters 96 = .ok (.isub, 1) := by decide +kernel
theorem dX6_readsLetters_97 : decode cX6_readsLetters 97 = .ok (.bipush 6, 2) := by decide +kernel
theorem dX6_readsLetters_99 : decode cX6_readsLetters 99 = .ok (.if_icmp .ne 15, 3) := by decide +kernel
theorem dX6_readsLetters_102 : decode cX6_readsLetters 102 = .ok (.aload_n 0, 1) := by decide +kernel
theorem dX6_readsLetters_103 : decode cX6_readsLetters 103 = .ok (.getfield 26, 3) := by decide +kernel
theorem dX6_readsLetters_106 : decode cX6_readsLetters 106 = .ok (.aload_n 0, 1) := by decide +kernel
theorem dX6_readsLetters_107 : decode cX6_readsLetters 107 = .ok (.getfield 112, 3) := by decide +kernel
theorem dX6_readsLetters_110 : decode cX6_readsLetters 110 = .ok (.iaload, 1) := by decide +kernel
theorem dX6_readsLetters_111 : decode cX6_readsLetters 111 = .ok (.goto 7, 3) := by decide +kernel
theorem dX6_readsLetters_114 : decode cX6_readsLetters 114 = .ok (.aload_n 0, 1) := by decide +kernel
theorem dX6_readsLetters_115 : decode cX6_readsLetters 115 = .ok (.getfield 149, 3) := by decide +kernel
theorem dX6_readsLetters_118 : decode cX6_readsLetters 118 = .ok (.putfield 149, 3) := by decide +kernel
theorem dX6_readsLetters_121 : decode cX6_readsLetters 121 = .ok (.aload_n 0, 1) := by decide +kernel
theorem dX6_readsLetters_122 : decode cX6_readsLetters 122 = .ok (.dup, 1) := by decide +kernel
theorem dX6_readsLetters_123 : decode cX6_readsLetters 123 = .ok (.getfield 112, 3) := by decide +kernel
theorem dX6_readsLetters_126 : decode cX6_readsLetters 126 = .ok (.iconst 1, 1) := by decide +kernel
theorem dX6_readsLetters_127 : decode cX6_readsLetters 127 = .ok (.iadd, 1) := by decide +kernel
theorem dX6_readsLetters_128 : decode cX6_readsLetters 128 = .ok (.putfield 112, 3) := by decide +kernel
theorem dX6_readsLetters_131 : decode cX6_readsLetters 131 = .ok (.goto (-126), 3) := by decide +kernel
theorem dX6_readsLetters_134 : decode cX6_readsLetters 134 = .ok (.aload_n 0, 1) := by decide +kernel
theorem dX6_readsLetters_135 : decode cX6_readsLetters 135 = .ok (.aload_n 0, 1) := by decide +kernel
theorem dX6_readsLetters_136 : decode cX6_readsLetters 136 = .ok (.getfield 112, 3) := by decide +kernel
theorem dX6_readsLetters_139 : decode cX6_readsLetters 139 = .ok (.aload_n 0, 1) := by decide +kernel
theorem dX6_readsLetters_140 : decode cX6_readsLetters 140 = .ok (.getfield 123, 3) := by decide +kernel
theorem dX6_readsLetters_143 : decode cX6_readsLetters 143 = .ok (.isub, 1) := by decide +kernel
theorem dX6_readsLetters_144 : decode cX6_readsLetters 144 = .ok (.putfield 152, 3) := by decide +kernel
theorem dX6_readsLetters_147 : decode cX6_readsLetters 147 = .ok (.return_, 1) := by decide +kernel
theorem dX6_isWord_0 : decode cX6_isWord 0 = .ok (.aload_n 0, 1) := by decide +kernel
theorem dX6_isWord_1 : decode cX6_isWord 1 = .ok (.getfield 132, 3) := by decide +kernel
theorem dX6_isWord_4 : decode cX6_isWord 4 = .ok (.iconst 1, 1) := by decide +kernel
theorem dX6_isWord_5 : decode cX6_isWord 5 = .ok (.if_icmp .ne 23, 3) := by decide +kernel
theorem dX6_isWord_8 : decode cX6_isWord 8 = .ok (.aload_n 0, 1) := by decide +kernel
theorem dX6_isWord_9 : decode cX6_isWord 9 = .ok (.getfield 126, 3) := by decide +kernel
theorem dX6_isWord_12 : decode cX6_isWord 12 = .ok (.iload_n 1, 1) := by decide +kernel
theorem dX6_isWord_13 : decode cX6_isWord 13 = .ok (.if_icmp .ne 15, 3) := by decide +kernel
theorem dX6_isWord_16 : decode cX6_isWord 16 = .ok (.aload_n 0, 1) := by decide +kernel
theorem dX6_isWord_17 : decode cX6_isWord 17 = .ok (.getfield 152, 3) := by decide +kernel
theorem dX6_isWord_20 : decode cX6_isWord 20 = .ok (.iload_n 2, 1) := by decide +kernel
theorem dX6_isWord_21 : decode cX6_isWord 21 = .ok (.if_icmp .ne 7, 3) := by decide +kernel
theorem dX6_isWord_24 : decode cX6_isWord 24 = .ok (.iconst 1, 1) := by decide +kernel
theorem dX6_isWord_25 : decode cX6_isWord 25 = .ok (.goto 4, 3) := by decide +kernel
theorem dX6_isWord_28 : decode cX6_isWord 28 = .ok (.iconst 0, 1) := by decide +kernel
theorem dX6_isWord_29 : decode cX6_isWord 29 = .ok (.ireturn, 1) := by decide +kernel
theorem dX6_number_0 : decode cX6_number 0 = .ok (.aload_n 0, 1) := by decide +kernel
theorem dX6_number_1 : decode cX6_number 1 = .ok (.invokevirtual 155, 3) := by decide +kernel
theorem dX6_number_4 : decode cX6_number 4 = .ok (.aload_n 0, 1) := by decide +kernel
theorem dX6_number_5 : decode cX6_number 5 = .ok (.getfield 132, 3) := by decide +kernel
theorem dX6_number_8 : decode cX6_number 8 = .ok (.iconst 2, 1) := by decide +kernel
theorem dX6_number_9 : decode cX6_number 9 = .ok (.if_icmp .ne 22, 3) := by decide +kernel
theorem dX6_number_12 : decode cX6_number 12 = .ok (.aload_n 0, 1) := by decide +kernel
theorem dX6_number_13 : decode cX6_number 13 = .ok (.getfield 129, 3) := by decide +kernel
theorem dX6_number_16 : decode cX6_number 16 = .ok (.i2l, 1) := by decide +kernel
theorem dX6_number_17 : decode cX6_number 17 = .ok (.iload_n 1, 1) := by decide +kernel
theorem dX6_number_18 : decode cX6_number 18 = .ok (.i2l, 1) := by decide +kernel
theorem dX6_number_19 : decode cX6_number 19 = .ok (.iload_n 2, 1) := by decide +kernel
theorem dX6_number_20 : decode cX6_number 20 = .ok (.i2l, 1) := by decide +kernel
theorem dX6_number_21 : decode cX6_number 21 = .ok (.invokestatic 86, 3) := by decide +kernel
theorem dX6_number_24 : decode cX6_number 24 = .ok (.ifCond .eq 7, 3) := by decide +kernel
theorem dX6_number_27 : decode cX6_number 27 = .ok (.iconst 1, 1) := by decide +kernel
theorem dX6_number_28 : decode cX6_number 28 = .ok (.goto 4, 3) := by decide +kernel
theorem dX6_number_31 : decode cX6_number 31 = .ok (.iconst 0, 1) := by decide +kernel
theorem dX6_number_32 : decode cX6_number 32 = .ok (.ireturn, 1) := by decide +kernel
theorem dX6_readsSeat_0 : decode cX6_readsSeat 0 = .ok (.aload_n 0, 1) := by decide +kernel
theorem dX6_readsSeat_1 : decode cX6_readsSeat 1 = .ok (.getfield 13, 3) := by decide +kernel
theorem dX6_readsSeat_4 : decode cX6_readsSeat 4 = .ok (.bipush 33, 2) := by decide +kernel
theorem dX6_readsSeat_6 : decode cX6_readsSeat 6 = .ok (.iaload, 1) := by decide +kernel
theorem dX6_readsSeat_7 : decode cX6_readsSeat 7 = .ok (.istore_n 1, 1) := by decide +kernel
theorem dX6_readsSeat_8 : decode cX6_readsSeat 8 = .ok (.iload_n 1, 1) := by decide +kernel
theorem dX6_readsSeat_9 : decode cX6_readsSeat 9 = .ok (.bipush 7, 2) := by decide +kernel
theorem dX6_readsSeat_11 : decode cX6_readsSeat 11 = .ok (.if_icmp .eq 12, 3) := by decide +kernel
theorem dX6_readsSeat_14 : decode cX6_readsSeat 14 = .ok (.aload_n 0, 1) := by decide +kernel
theorem dX6_readsSeat_15 : decode cX6_readsSeat 15 = .ok (.iconst 0, 1) := by decide +kernel
theorem dX6_readsSeat_16 : decode cX6_readsSeat 16 = .ok (.iconst 5, 1) := by decide +kernel
theorem dX6_readsSeat_17 : decode cX6_readsSeat 17 = .ok (.invokevirtual 158, 3) := by decide +kernel
theorem dX6_readsSeat_20 : decode cX6_readsSeat 20 = .ok (.ifCond .ne 5, 3) := by decide +kernel
theorem dX6_readsSeat_23 : decode cX6_readsSeat 23 = .ok (.iconst 0, 1) := by decide +kernel
theorem dX6_readsSeat_24 : decode cX6_readsSeat 24 = .ok (.ireturn, 1) := by decide +kernel
theorem dX6_readsSeat_25 : decode cX6_readsSeat 25 = .ok (.aload_n 0, 1) := by decide +kernel
theorem dX6_readsSeat_26 : decode cX6_readsSeat 26 = .ok (.getfield 13, 3) := by decide +kernel
theorem dX6_readsSeat_29 : decode cX6_readsSeat 29 = .ok (.bipush 34, 2) := by decide +kernel
theorem dX6_readsSeat_31 : decode cX6_readsSeat 31 = .ok (.iload_n 1, 1) := by decide +kernel
theorem dX6_readsSeat_32 : decode cX6_readsSeat 32 = .ok (.iadd, 1) := by decide +kernel
theorem dX6_readsSeat_33 : decode cX6_readsSeat 33 = .ok (.aload_n 0, 1) := by decide +kernel
theorem dX6_readsSeat_34 : decode cX6_readsSeat 34 = .ok (.getfield 129, 3) := by decide +kernel
theorem dX6_readsSeat_37 : decode cX6_readsSeat 37 = .ok (.iastore, 1) := by decide +kernel
theorem dX6_readsSeat_38 : decode cX6_readsSeat 38 = .ok (.aload_n 0, 1) := by decide +kernel
theorem dX6_readsSeat_39 : decode cX6_readsSeat 39 = .ok (.iconst 0, 1) := by decide +kernel
theorem dX6_readsSeat_40 : decode cX6_readsSeat 40 = .ok (.iconst 3, 1) := by decide +kernel
theorem dX6_readsSeat_41 : decode cX6_readsSeat 41 = .ok (.invokevirtual 158, 3) := by decide +kernel
theorem dX6_readsSeat_44 : decode cX6_readsSeat 44 = .ok (.ifCond .ne 5, 3) := by decide +kernel
theorem dX6_readsSeat_47 : decode cX6_readsSeat 47 = .ok (.iconst 0, 1) := by decide +kernel
theorem dX6_readsSeat_48 : decode cX6_readsSeat 48 = .ok (.ireturn, 1) := by decide +kernel
theorem dX6_readsSeat_49 : decode cX6_readsSeat 49 = .ok (.aload_n 0, 1) := by decide +kernel
theorem dX6_readsSeat_50 : decode cX6_readsSeat 50 = .ok (.getfield 13, 3) := by decide +kernel
theorem dX6_readsSeat_53 : decode cX6_readsSeat 53 = .ok (.bipush 41, 2) := by decide +kernel
theorem dX6_readsSeat_55 : decode cX6_readsSeat 55 = .ok (.iload_n 1, 1) := by decide +kernel
theorem dX6_readsSeat_56 : decode cX6_readsSeat 56 = .ok (.iadd, 1) := by decide +kernel
theorem dX6_readsSeat_57 : decode cX6_readsSeat 57 = .ok (.aload_n 0, 1) := by decide +kernel
theorem dX6_readsSeat_58 : decode cX6_readsSeat 58 = .ok (.getfield 129, 3) := by decide +kernel
theorem dX6_readsSeat_61 : decode cX6_readsSeat 61 = .ok (.iastore, 1) := by decide +kernel
theorem dX6_readsSeat_62 : decode cX6_readsSeat 62 = .ok (.aload_n 0, 1) := by decide +kernel
theorem dX6_readsSeat_63 : decode cX6_readsSeat 63 = .ok (.iconst 0, 1) := by decide +kernel
theorem dX6_readsSeat_64 : decode cX6_readsSeat 64 = .ok (.bipush 40, 2) := by decide +kernel
theorem dX6_readsSeat_66 : decode cX6_readsSeat 66 = .ok (.invokevirtual 158, 3) := by decide +kernel
theorem dX6_readsSeat_69 : decode cX6_readsSeat 69 = .ok (.ifCond .ne 5, 3) := by decide +kernel
theorem dX6_readsSeat_72 : decode cX6_readsSeat 72 = .ok (.iconst 0, 1) := by decide +kernel
theorem dX6_readsSeat_73 : decode cX6_readsSeat 73 = .ok (.ireturn, 1) := by decide +kernel
theorem dX6_readsSeat_74 : decode cX6_readsSeat 74 = .ok (.aload_n 0, 1) := by decide +kernel
theorem dX6_readsSeat_75 : decode cX6_readsSeat 75 = .ok (.getfield 13, 3) := by decide +kernel
theorem dX6_readsSeat_78 : decode cX6_readsSeat 78 = .ok (.bipush 25, 2) := by decide +kernel
theorem dX6_readsSeat_80 : decode cX6_readsSeat 80 = .ok (.iload_n 1, 1) := by decide +kernel
theorem dX6_readsSeat_81 : decode cX6_readsSeat 81 = .ok (.iadd, 1) := by decide +kernel
theorem dX6_readsSeat_82 : decode cX6_readsSeat 82 = .ok (.aload_n 0, 1) := by decide +kernel
theorem dX6_readsSeat_83 : decode cX6_readsSeat 83 = .ok (.getfield 129, 3) := by decide +kernel
theorem dX6_readsSeat_86 : decode cX6_readsSeat 86 = .ok (.iastore, 1) := by decide +kernel
theorem dX6_readsSeat_87 : decode cX6_readsSeat 87 = .ok (.aload_n 0, 1) := by decide +kernel
theorem dX6_readsSeat_88 : decode cX6_readsSeat 88 = .ok (.getfield 13, 3) := by decide +kernel
theorem dX6_readsSeat_91 : decode cX6_readsSeat 91 = .ok (.bipush 33, 2) := by decide +kernel
theorem dX6_readsSeat_93 : decode cX6_readsSeat 93 = .ok (.dup2, 1) := by decide +kernel
theorem dX6_readsSeat_94 : decode cX6_readsSeat 94 = .ok (.iaload, 1) := by decide +kernel
theorem dX6_readsSeat_95 : decode cX6_readsSeat 95 = .ok (.iconst 1, 1) := by decide +kernel
theorem dX6_readsSeat_96 : decode cX6_readsSeat 96 = .ok (.iadd, 1) := by decide +kernel
theorem dX6_readsSeat_97 : decode cX6_readsSeat 97 = .ok (.iastore, 1) := by decide +kernel
theorem dX6_readsSeat_98 : decode cX6_readsSeat 98 = .ok (.iconst 1, 1) := by decide +kernel
theorem dX6_readsSeat_99 : decode cX6_readsSeat 99 = .ok (.ireturn, 1) := by decide +kernel
theorem dX6_readsCanon_0 : decode cX6_readsCanon 0 = .ok (.aload_n 0, 1) := by decide +kernel
theorem dX6_readsCanon_1 : decode cX6_readsCanon 1 = .ok (.getfield 13, 3) := by decide +kernel
theorem dX6_readsCanon_4 : decode cX6_readsCanon 4 = .ok (.bipush 48, 2) := by decide +kernel
theorem dX6_readsCanon_6 : decode cX6_readsCanon 6 = .ok (.iaload, 1) := by decide +kernel
theorem dX6_readsCanon_7 : decode cX6_readsCanon 7 = .ok (.istore_n 1, 1) := by decide +kernel
theorem dX6_readsCanon_8 : decode cX6_readsCanon 8 = .ok (.iload_n 1, 1) := by decide +kernel
theorem dX6_readsCanon_9 : decode cX6_readsCanon 9 = .ok (.iconst 5, 1) := by decide +kernel
theorem dX6_readsCanon_10 : decode cX6_readsCanon 10 = .ok (.if_icmp .eq 12, 3) := by decide +kernel
theorem dX6_readsCanon_13 : decode cX6_readsCanon 13 = .ok (.aload_n 0, 1) := by decide +kernel
theorem dX6_readsCanon_14 : decode cX6_readsCanon 14 = .ok (.iconst 0, 1) := by decide +kernel
theorem dX6_readsCanon_15 : decode cX6_readsCanon 15 = .ok (.iconst 5, 1) := by decide +kernel
theorem dX6_readsCanon_16 : decode cX6_readsCanon 16 = .ok (.invokevirtual 158, 3) := by decide +kernel
theorem dX6_readsCanon_19 : decode cX6_readsCanon 19 = .ok (.ifCond .ne 5, 3) := by decide +kernel
theorem dX6_readsCanon_22 : decode cX6_readsCanon 22 = .ok (.iconst 0, 1) := by decide +kernel
theorem dX6_readsCanon_23 : decode cX6_readsCanon 23 = .ok (.ireturn, 1) := by decide +kernel
theorem dX6_readsCanon_24 : decode cX6_readsCanon 24 = .ok (.aload_n 0, 1) := by decide +kernel
theorem dX6_readsCanon_25 : decode cX6_readsCanon 25 = .ok (.getfield 13, 3) := by decide +kernel
theorem dX6_readsCanon_28 : decode cX6_readsCanon 28 = .ok (.bipush 49, 2) := by decide +kernel
theorem dX6_readsCanon_30 : decode cX6_readsCanon 30 = .ok (.iload_n 1, 1) := by decide +kernel
theorem dX6_readsCanon_31 : decode cX6_readsCanon 31 = .ok (.iadd, 1) := by decide +kernel
theorem dX6_readsCanon_32 : decode cX6_readsCanon 32 = .ok (.aload_n 0, 1) := by decide +kernel
theorem dX6_readsCanon_33 : decode cX6_readsCanon 33 = .ok (.getfield 129, 3) := by decide +kernel
theorem dX6_readsCanon_36 : decode cX6_readsCanon 36 = .ok (.iastore, 1) := by decide +kernel
theorem dX6_readsCanon_37 : decode cX6_readsCanon 37 = .ok (.aload_n 0, 1) := by decide +kernel
theorem dX6_readsCanon_38 : decode cX6_readsCanon 38 = .ok (.iconst 1, 1) := by decide +kernel
theorem dX6_readsCanon_39 : decode cX6_readsCanon 39 = .ok (.bipush 9, 2) := by decide +kernel
theorem dX6_readsCanon_41 : decode cX6_readsCanon 41 = .ok (.invokevirtual 158, 3) := by decide +kernel
theorem dX6_readsCanon_44 : decode cX6_readsCanon 44 = .ok (.ifCond .ne 5, 3) := by decide +kernel
theorem dX6_readsCanon_47 : decode cX6_readsCanon 47 = .ok (.iconst 0, 1) := by decide +kernel
theorem dX6_readsCanon_48 : decode cX6_readsCanon 48 = .ok (.ireturn, 1) := by decide +kernel
theorem dX6_readsCanon_49 : decode cX6_readsCanon 49 = .ok (.aload_n 0, 1) := by decide +kernel
theorem dX6_readsCanon_50 : decode cX6_readsCanon 50 = .ok (.getfield 13, 3) := by decide +kernel
theorem dX6_readsCanon_53 : decode cX6_readsCanon 53 = .ok (.bipush 54, 2) := by decide +kernel
theorem dX6_readsCanon_55 : decode cX6_readsCanon 55 = .ok (.iload_n 1, 1) := by decide +kernel
theorem dX6_readsCanon_56 : decode cX6_readsCanon 56 = .ok (.iadd, 1) := by decide +kernel
theorem dX6_readsCanon_57 : decode cX6_readsCanon 57 = .ok (.aload_n 0, 1) := by decide +kernel
theorem dX6_readsCanon_58 : decode cX6_readsCanon 58 = .ok (.getfield 129, 3) := by decide +kernel
theorem dX6_readsCanon_61 : decode cX6_readsCanon 61 = .ok (.iastore, 1) := by decide +kernel
theorem dX6_readsCanon_62 : decode cX6_readsCanon 62 = .ok (.aload_n 0, 1) := by decide +kernel
theorem dX6_readsCanon_63 : decode cX6_readsCanon 63 = .ok (.getfield 13, 3) := by decide +kernel
theorem dX6_readsCanon_66 : decode cX6_readsCanon 66 = .ok (.bipush 48, 2) := by decide +kernel
theorem dX6_readsCanon_68 : decode cX6_readsCanon 68 = .ok (.dup2, 1) := by decide +kernel
theorem dX6_readsCanon_69 : decode cX6_readsCanon 69 = .ok (.iaload, 1) := by decide +kernel
theorem dX6_readsCanon_70 : decode cX6_readsCanon 70 = .ok (.iconst 1, 1) := by decide +kernel
theorem dX6_readsCanon_71 : decode cX6_readsCanon 71 = .ok (.iadd, 1) := by decide +kernel
theorem dX6_readsCanon_72 : decode cX6_readsCanon 72 = .ok (.iastore, 1) := by decide +kernel
theorem dX6_readsCanon_73 : decode cX6_readsCanon 73 = .ok (.iconst 1, 1) := by decide +kernel
theorem dX6_readsCanon_74 : decode cX6_readsCanon 74 = .ok (.ireturn, 1) := by decide +kernel
theorem dX6_readsSitting_0 : decode cX6_readsSitting 0 = .ok (.aload_n 0, 1) := by decide +kernel
theorem dX6_readsSitting_1 : decode cX6_readsSitting 1 = .ok (.iconst 0, 1) := by decide +kernel
theorem dX6_readsSitting_2 : decode cX6_readsSitting 2 = .ok (.aload_n 0, 1) := by decide +kernel
theorem dX6_readsSitting_3 : decode cX6_readsSitting 3 = .ok (.getfield 13, 3) := by decide +kernel
theorem dX6_readsSitting_6 : decode cX6_readsSitting 6 = .ok (.bipush 48, 2) := by decide +kernel
theorem dX6_readsSitting_8 : decode cX6_readsSitting 8 = .ok (.iaload, 1) := by decide +kernel
theorem dX6_readsSitting_9 : decode cX6_readsSitting 9 = .ok (.iconst 1, 1) := by decide +kernel
theorem dX6_readsSitting_10 : decode cX6_readsSitting 10 = .ok (.isub, 1) := by decide +kernel
theorem dX6_readsSitting_11 : decode cX6_readsSitting 11 = .ok (.invokevirtual 158, 3) := by decide +kernel
theorem dX6_readsSitting_14 : decode cX6_readsSitting 14 = .ok (.ifCond .ne 5, 3) := by decide +kernel
theorem dX6_readsSitting_17 : decode cX6_readsSitting 17 = .ok (.iconst 0, 1) := by decide +kernel
theorem dX6_readsSitting_18 : decode cX6_readsSitting 18 = .ok (.ireturn, 1) := by decide +kernel
theorem dX6_readsSitting_19 : decode cX6_readsSitting 19 = .ok (.aload_n 0, 1) := by decide +kernel
theorem dX6_readsSitting_20 : decode cX6_readsSitting 20 = .ok (.getfield 129, 3) := by decide +kernel
theorem dX6_readsSitting_23 : decode cX6_readsSitting 23 = .ok (.istore_n 1, 1) := by decide +kernel
theorem dX6_readsSitting_24 : decode cX6_readsSitting 24 = .ok (.aload_n 0, 1) := by decide +kernel
theorem dX6_readsSitting_25 : decode cX6_readsSitting 25 = .ok (.iconst 0, 1) := by decide +kernel
theorem dX6_readsSitting_26 : decode cX6_readsSitting 26 = .ok (.aload_n 0, 1) := by decide +kernel
theorem dX6_readsSitting_27 : decode cX6_readsSitting 27 = .ok (.getfield 13, 3) := by decide +kernel
theorem dX6_readsSitting_30 : decode cX6_readsSitting 30 = .ok (.bipush 33, 2) := by decide +kernel
theorem dX6_readsSitting_32 : decode cX6_readsSitting 32 = .ok (.iaload, 1) := by decide +kernel
theorem dX6_readsSitting_33 : decode cX6_readsSitting 33 = .ok (.iconst 1, 1) := by decide +kernel
theorem dX6_readsSitting_34 : decode cX6_readsSitting 34 = .ok (.isub, 1) := by decide +kernel
theorem dX6_readsSitting_35 : decode cX6_readsSitting 35 = .ok (.invokevirtual 158, 3) := by decide +kernel
theorem dX6_readsSitting_38 : decode cX6_readsSitting 38 = .ok (.ifCond .ne 5, 3) := by decide +kernel
theorem dX6_readsSitting_41 : decode cX6_readsSitting 41 = .ok (.iconst 0, 1) := by decide +kernel
theorem dX6_readsSitting_42 : decode cX6_readsSitting 42 = .ok (.ireturn, 1) := by decide +kernel
theorem dX6_readsSitting_43 : decode cX6_readsSitting 43 = .ok (.aload_n 0, 1) := by decide +kernel
theorem dX6_readsSitting_44 : decode cX6_readsSitting 44 = .ok (.getfield 13, 3) := by decide +kernel
theorem dX6_readsSitting_47 : decode cX6_readsSitting 47 = .ok (.aload_n 0, 1) := by decide +kernel
theorem dX6_readsSitting_48 : decode cX6_readsSitting 48 = .ok (.getfield 129, 3) := by decide +kernel
theorem dX6_readsSitting_51 : decode cX6_readsSitting 51 = .ok (.invokestatic 162, 3) := by decide +kernel
theorem dX6_readsSitting_54 : decode cX6_readsSitting 54 = .ok (.istore_n 2, 1) := by decide +kernel
theorem dX6_readsSitting_55 : decode cX6_readsSitting 55 = .ok (.iload_n 2, 1) := by decide +kernel
theorem dX6_readsSitting_56 : decode cX6_readsSitting 56 = .ok (.iconst (-1), 1) := by decide +kernel
theorem dX6_readsSitting_57 : decode cX6_readsSitting 57 = .ok (.if_icmp .eq 10, 3) := by decide +kernel
theorem dX6_readsSitting_60 : decode cX6_readsSitting 60 = .ok (.iload_n 2, 1) := by decide +kernel
theorem dX6_readsSitting_61 : decode cX6_readsSitting 61 = .ok (.iload_n 1, 1) := by decide +kernel
theorem dX6_readsSitting_62 : decode cX6_readsSitting 62 = .ok (.if_icmp .eq 5, 3) := by decide +kernel
theorem dX6_readsSitting_65 : decode cX6_readsSitting 65 = .ok (.iconst 0, 1) := by decide +kernel
theorem dX6_readsSitting_66 : decode cX6_readsSitting 66 = .ok (.ireturn, 1) := by decide +kernel
theorem dX6_readsSitting_67 : decode cX6_readsSitting 67 = .ok (.aload_n 0, 1) := by decide +kernel
theorem dX6_readsSitting_68 : decode cX6_readsSitting 68 = .ok (.getfield 13, 3) := by decide +kernel
theorem dX6_readsSitting_71 : decode cX6_readsSitting 71 = .ok (.iconst 0, 1) := by decide +kernel
theorem dX6_readsSitting_72 : decode cX6_readsSitting 72 = .ok (.iload_n 1, 1) := by decide +kernel
theorem dX6_readsSitting_73 : decode cX6_readsSitting 73 = .ok (.iadd, 1) := by decide +kernel
theorem dX6_readsSitting_74 : decode cX6_readsSitting 74 = .ok (.aload_n 0, 1) := by decide +kernel
theorem dX6_readsSitting_75 : decode cX6_readsSitting 75 = .ok (.getfield 129, 3) := by decide +kernel
theorem dX6_readsSitting_78 : decode cX6_readsSitting 78 = .ok (.iastore, 1) := by decide +kernel
theorem dX6_readsSitting_79 : decode cX6_readsSitting 79 = .ok (.iconst 1, 1) := by decide +kernel
theorem dX6_readsSitting_80 : decode cX6_readsSitting 80 = .ok (.ireturn, 1) := by decide +kernel
theorem dX6_readsYears_0 : decode cX6_readsYears 0 = .ok (.aload_n 0, 1) := by decide +kernel
theorem dX6_readsYears_1 : decode cX6_readsYears 1 = .ok (.iconst 1, 1) := by decide +kernel
theorem dX6_readsYears_2 : decode cX6_readsYears 2 = .ok (.bipush 30, 2) := by decide +kernel
theorem dX6_readsYears_4 : decode cX6_readsYears 4 = .ok (.invokevirtual 158, 3) := by decide +kernel
theorem dX6_readsYears_7 : decode cX6_readsYears 7 = .ok (.ifCond .ne 5, 3) := by decide +kernel
theorem dX6_readsYears_10 : decode cX6_readsYears 10 = .ok (.iconst 0, 1) := by decide +kernel
theorem dX6_readsYears_11 : decode cX6_readsYears 11 = .ok (.ireturn, 1) := by decide +kernel
theorem dX6_readsYears_12 : decode cX6_readsYears 12 = .ok (.iconst 0, 1) := by decide +kernel
theorem dX6_readsYears_13 : decode cX6_readsYears 13 = .ok (.istore_n 1, 1) := by decide +kernel
theorem dX6_readsYears_14 : decode cX6_readsYears 14 = .ok (.iload_n 1, 1) := by decide +kernel
theorem dX6_readsYears_15 : decode cX6_readsYears 15 = .ok (.aload_n 0, 1) := by decide +kernel
theorem dX6_readsYears_16 : decode cX6_readsYears 16 = .ok (.getfield 129, 3) := by decide +kernel
theorem dX6_readsYears_19 : decode cX6_readsYears 19 = .ok (.if_icmp .ge 38, 3) := by decide +kernel
theorem dX6_readsYears_22 : decode cX6_readsYears 22 = .ok (.aload_n 0, 1) := by decide +kernel
theorem dX6_readsYears_23 : decode cX6_readsYears 23 = .ok (.invokevirtual 165, 3) := by decide +kernel
theorem dX6_readsYears_26 : decode cX6_readsYears 26 = .ok (.aload_n 0, 1) := by decide +kernel
theorem dX6_readsYears_27 : decode cX6_readsYears 27 = .ok (.getfield 7, 3) := by decide +kernel
theorem dX6_readsYears_30 : decode cX6_readsYears 30 = .ok (.bipush 32, 2) := by decide +kernel
theorem dX6_readsYears_32 : decode cX6_readsYears 32 = .ok (.iaload, 1) := by decide +kernel
theorem dX6_readsYears_33 : decode cX6_readsYears 33 = .ok (.sipush 999, 3) := by decide +kernel
theorem dX6_readsYears_36 : decode cX6_readsYears 36 = .ok (.if_icmp .ge 11, 3) := by decide +kernel
theorem dX6_readsYears_39 : decode cX6_readsYears 39 = .ok (.aload_n 0, 1) := by decide +kernel
theorem dX6_readsYears_40 : decode cX6_readsYears 40 = .ok (.aload_n 0, 1) := by decide +kernel
theorem dX6_readsYears_41 : decode cX6_readsYears 41 = .ok (.getfield 7, 3) := by decide +kernel
theorem dX6_readsYears_44 : decode cX6_readsYears 44 = .ok (.invokevirtual 168, 3) := by decide +kernel
theorem dX6_readsYears_47 : decode cX6_readsYears 47 = .ok (.aload_n 0, 1) := by decide +kernel
theorem dX6_readsYears_48 : decode cX6_readsYears 48 = .ok (.invokevirtual 165, 3) := by decide +kernel
theorem dX6_readsYears_51 : decode cX6_readsYears 51 = .ok (.iinc 1 1, 3) := by decide +kernel
theorem dX6_readsYears_54 : decode cX6_readsYears 54 = .ok (.goto (-40), 3) := by decide +kernel
theorem dX6_readsYears_57 : decode cX6_readsYears 57 = .ok (.iconst 1, 1) := by decide +kernel
theorem dX6_readsYears_58 : decode cX6_readsYears 58 = .ok (.ireturn, 1) := by decide +kernel
theorem dX6_swapsRows_0 : decode cX6_swapsRows 0 = .ok (.iconst 0, 1) := by decide +kernel
theorem dX6_swapsRows_1 : decode cX6_swapsRows 1 = .ok (.istore_n 1, 1) := by decide +kernel
theorem dX6_swapsRows_2 : decode cX6_swapsRows 2 = .ok (.iload_n 1, 1) := by decide +kernel
theorem dX6_swapsRows_3 : decode cX6_swapsRows 3 = .ok (.sipush 399, 3) := by decide +kernel
theorem dX6_swapsRows_6 : decode cX6_swapsRows 6 = .ok (.if_icmp .ge 35, 3) := by decide +kernel
theorem dX6_swapsRows_9 : decode cX6_swapsRows 9 = .ok (.aload_n 0, 1) := by decide +kernel
theorem dX6_swapsRows_10 : decode cX6_swapsRows 10 = .ok (.getfield 7, 3) := by decide +kernel
theorem dX6_swapsRows_13 : decode cX6_swapsRows 13 = .ok (.iload_n 1, 1) := by decide +kernel
theorem dX6_swapsRows_14 : decode cX6_swapsRows 14 = .ok (.iaload, 1) := by decide +kernel
theorem dX6_swapsRows_15 : decode cX6_swapsRows 15 = .ok (.istore_n 2, 1) := by decide +kernel
theorem dX6_swapsRows_16 : decode cX6_swapsRows 16 = .ok (.aload_n 0, 1) := by decide +kernel
theorem dX6_swapsRows_17 : decode cX6_swapsRows 17 = .ok (.getfield 7, 3) := by decide +kernel
theorem dX6_swapsRows_20 : decode cX6_swapsRows 20 = .ok (.iload_n 1, 1) := by decide +kernel
theorem dX6_swapsRows_21 : decode cX6_swapsRows 21 = .ok (.aload_n 0, 1) := by decide +kernel
theorem dX6_swapsRows_22 : decode cX6_swapsRows 22 = .ok (.getfield 13, 3) := by decide +kernel
theorem dX6_swapsRows_25 : decode cX6_swapsRows 25 = .ok (.iload_n 1, 1) := by decide +kernel
theorem dX6_swapsRows_26 : decode cX6_swapsRows 26 = .ok (.iaload, 1) := by decide +kernel
theorem dX6_swapsRows_27 : decode cX6_swapsRows 27 = .ok (.iastore, 1) := by decide +kernel
theorem dX6_swapsRows_28 : decode cX6_swapsRows 28 = .ok (.aload_n 0, 1) := by decide +kernel
theorem dX6_swapsRows_29 : decode cX6_swapsRows 29 = .ok (.getfield 13, 3) := by decide +kernel
theorem dX6_swapsRows_32 : decode cX6_swapsRows 32 = .ok (.iload_n 1, 1) := by decide +kernel
theorem dX6_swapsRows_33 : decode cX6_swapsRows 33 = .ok (.iload_n 2, 1) := by decide +kernel
theorem dX6_swapsRows_34 : decode cX6_swapsRows 34 = .ok (.iastore, 1) := by decide +kernel
theorem dX6_swapsRows_35 : decode cX6_swapsRows 35 = .ok (.iinc 1 1, 3) := by decide +kernel
theorem dX6_swapsRows_38 : decode cX6_swapsRows 38 = .ok (.goto (-36), 3) := by decide +kernel
theorem dX6_swapsRows_41 : decode cX6_swapsRows 41 = .ok (.return_, 1) := by decide +kernel
theorem dX6_readsItem_0 : decode cX6_readsItem 0 = .ok (.aload_n 0, 1) := by decide +kernel
theorem dX6_readsItem_1 : decode cX6_readsItem 1 = .ok (.ldc 171, 2) := by decide +kernel
theorem dX6_readsItem_3 : decode cX6_readsItem 3 = .ok (.bipush 7, 2) := by decide +kernel
theorem dX6_readsItem_5 : decode cX6_readsItem 5 = .ok (.invokevirtual 172, 3) := by decide +kernel
theorem dX6_readsItem_8 : decode cX6_readsItem 8 = .ok (.ifCond .eq 22, 3) := by decide +kernel
theorem dX6_readsItem_11 : decode cX6_readsItem 11 = .ok (.aload_n 0, 1) := by decide +kernel
theorem dX6_readsItem_12 : decode cX6_readsItem 12 = .ok (.getfield 149, 3) := by decide +kernel
theorem dX6_readsItem_15 : decode cX6_readsItem 15 = .ok (.bipush 114, 2) := by decide +kernel
theorem dX6_readsItem_17 : decode cX6_readsItem 17 = .ok (.if_icmp .ne 13, 3) := by decide +kernel
theorem dX6_readsItem_20 : decode cX6_readsItem 20 = .ok (.iload_n 1, 1) := by decide +kernel
theorem dX6_readsItem_21 : decode cX6_readsItem 21 = .ok (.ifCond .ne 7, 3) := by decide +kernel
theorem dX6_readsItem_24 : decode cX6_readsItem 24 = .ok (.iconst 1, 1) := by decide +kernel
theorem dX6_readsItem_25 : decode cX6_readsItem 25 = .ok (.goto 4, 3) := by decide +kernel
theorem dX6_readsItem_28 : decode cX6_readsItem 28 = .ok (.iconst 0, 1) := by decide +kernel
theorem dX6_readsItem_29 : decode cX6_readsItem 29 = .ok (.ireturn, 1) := by decide +kernel
theorem dX6_readsItem_30 : decode cX6_readsItem 30 = .ok (.iload_n 1, 1) := by decide +kernel
theorem dX6_readsItem_31 : decode cX6_readsItem 31 = .ok (.ifCond .ne 5, 3) := by decide +kernel
theorem dX6_readsItem_34 : decode cX6_readsItem 34 = .ok (.iconst 0, 1) := by decide +kernel
theorem dX6_readsItem_35 : decode cX6_readsItem 35 = .ok (.ireturn, 1) := by decide +kernel
theorem dX6_readsItem_36 : decode cX6_readsItem 36 = .ok (.aload_n 0, 1) := by decide +kernel
theorem dX6_readsItem_37 : decode cX6_readsItem 37 = .ok (.ldc 175, 2) := by decide +kernel
theorem dX6_readsItem_39 : decode cX6_readsItem 39 = .ok (.iconst 4, 1) := by decide +kernel
theorem dX6_readsItem_40 : decode cX6_readsItem 40 = .ok (.invokevirtual 172, 3) := by decide +kernel
theorem dX6_readsItem_43 : decode cX6_readsItem 43 = .ok (.ifCond .eq 8, 3) := by decide +kernel
theorem dX6_readsItem_46 : decode cX6_readsItem 46 = .ok (.aload_n 0, 1) := by decide +kernel
theorem dX6_readsItem_47 : decode cX6_readsItem 47 = .ok (.invokevirtual 176, 3) := by decide +kernel
theorem dX6_readsItem_50 : decode cX6_readsItem 50 = .ok (.ireturn, 1) := by decide +kernel
theorem dX6_readsItem_51 : decode cX6_readsItem 51 = .ok (.aload_n 0, 1) := by decide +kernel
theorem dX6_readsItem_52 : decode cX6_readsItem 52 = .ok (.ldc 179, 2) := by decide +kernel
theorem dX6_readsItem_54 : decode cX6_readsItem 54 = .ok (.iconst 5, 1) := by decide +kernel
theorem dX6_readsItem_55 : decode cX6_readsItem 55 = .ok (.invokevirtual 172, 3) := by decide +kernel
theorem dX6_readsItem_58 : decode cX6_readsItem 58 = .ok (.ifCond .eq 8, 3) := by decide +kernel
theorem dX6_readsItem_61 : decode cX6_readsItem 61 = .ok (.aload_n 0, 1) := by decide +kernel
theorem dX6_readsItem_62 : decode cX6_readsItem 62 = .ok (.invokevirtual 180, 3) := by decide +kernel
theorem dX6_readsItem_65 : decode cX6_readsItem 65 = .ok (.ireturn, 1) := by decide +kernel
theorem dX6_readsItem_66 : decode cX6_readsItem 66 = .ok (.aload_n 0, 1) := by decide +kernel
theorem dX6_readsItem_67 : decode cX6_readsItem 67 = .ok (.ldc 183, 2) := by decide +kernel
theorem dX6_readsItem_69 : decode cX6_readsItem 69 = .ok (.iconst 4, 1) := by decide +kernel
theorem dX6_readsItem_70 : decode cX6_readsItem 70 = .ok (.invokevirtual 172, 3) := by decide +kernel
theorem dX6_readsItem_73 : decode cX6_readsItem 73 = .ok (.ifCond .eq 8, 3) := by decide +kernel
theorem dX6_readsItem_76 : decode cX6_readsItem 76 = .ok (.aload_n 0, 1) := by decide +kernel
theorem dX6_readsItem_77 : decode cX6_readsItem 77 = .ok (.invokevirtual 184, 3) := by decide +kernel
theorem dX6_readsItem_80 : decode cX6_readsItem 80 = .ok (.ireturn, 1) := by decide +kernel
theorem dX6_readsItem_81 : decode cX6_readsItem 81 = .ok (.aload_n 0, 1) := by decide +kernel
theorem dX6_readsItem_82 : decode cX6_readsItem 82 = .ok (.ldc 187, 2) := by decide +kernel
theorem dX6_readsItem_84 : decode cX6_readsItem 84 = .ok (.iconst 5, 1) := by decide +kernel
theorem dX6_readsItem_85 : decode cX6_readsItem 85 = .ok (.invokevirtual 172, 3) := by decide +kernel
theorem dX6_readsItem_88 : decode cX6_readsItem 88 = .ok (.ifCond .eq 14, 3) := by decide +kernel
theorem dX6_readsItem_91 : decode cX6_readsItem 91 = .ok (.aload_n 0, 1) := by decide +kernel
theorem dX6_readsItem_92 : decode cX6_readsItem 92 = .ok (.invokevirtual 188, 3) := by decide +kernel
theorem dX6_readsItem_95 : decode cX6_readsItem 95 = .ok (.ifCond .eq 7, 3) := by decide +kernel
theorem dX6_readsItem_98 : decode cX6_readsItem 98 = .ok (.iconst 1, 1) := by decide +kernel
theorem dX6_readsItem_99 : decode cX6_readsItem 99 = .ok (.goto 4, 3) := by decide +kernel
theorem dX6_readsItem_102 : decode cX6_readsItem 102 = .ok (.iconst 0, 1) := by decide +kernel
theorem dX6_readsItem_103 : decode cX6_readsItem 103 = .ok (.ireturn, 1) := by decide +kernel
theorem dX6_read_0 : decode cX6_read 0 = .ok (.aload_n 0, 1) := by decide +kernel
theorem dX6_read_1 : decode cX6_read 1 = .ok (.getfield 13, 3) := by decide +kernel
theorem dX6_read_4 : decode cX6_read 4 = .ok (.invokestatic 48, 3) := by decide +kernel
theorem dX6_read_7 : decode cX6_read 7 = .ok (.aload_n 0, 1) := by decide +kernel
theorem dX6_read_8 : decode cX6_read 8 = .ok (.iconst 0, 1) := by decide +kernel
theorem dX6_read_9 : decode cX6_read 9 = .ok (.putfield 112, 3) := by decide +kernel
theorem dX6_read_12 : decode cX6_read 12 = .ok (.iconst 0, 1) := by decide +kernel
theorem dX6_read_13 : decode cX6_read 13 = .ok (.istore_n 1, 1) := by decide +kernel
theorem dX6_read_14 : decode cX6_read 14 = .ok (.aload_n 0, 1) := by decide +kernel
theorem dX6_read_15 : decode cX6_read 15 = .ok (.invokevirtual 155, 3) := by decide +kernel
theorem dX6_read_18 : decode cX6_read 18 = .ok (.aload_n 0, 1) := by decide +kernel
theorem dX6_read_19 : decode cX6_read 19 = .ok (.getfield 132, 3) := by decide +kernel
theorem dX6_read_22 : decode cX6_read 22 = .ok (.ifCond .ne 7, 3) := by decide +kernel
theorem dX6_read_25 : decode cX6_read 25 = .ok (.iload_n 1, 1) := by decide +kernel
theorem dX6_read_26 : decode cX6_read 26 = .ok (.ifCond .ne 49, 3) := by decide +kernel
theorem dX6_read_29 : decode cX6_read 29 = .ok (.aload_n 0, 1) := by decide +kernel
theorem dX6_read_30 : decode cX6_read 30 = .ok (.iload_n 1, 1) := by decide +kernel
theorem dX6_read_31 : decode cX6_read 31 = .ok (.invokevirtual 191, 3) := by decide +kernel
theorem dX6_read_34 : decode cX6_read 34 = .ok (.ifCond .ne 11, 3) := by decide +kernel
theorem dX6_read_37 : decode cX6_read 37 = .ok (.bipush (-10), 2) := by decide +kernel
theorem dX6_read_39 : decode cX6_read 39 = .ok (.aload_n 0, 1) := by decide +kernel
theorem dX6_read_40 : decode cX6_read 40 = .ok (.getfield 123, 3) := by decide +kernel
theorem dX6_read_43 : decode cX6_read 43 = .ok (.isub, 1) := by decide +kernel
theorem dX6_read_44 : decode cX6_read 44 = .ok (.ireturn, 1) := by decide +kernel
theorem dX6_read_45 : decode cX6_read 45 = .ok (.aload_n 0, 1) := by decide +kernel
theorem dX6_read_46 : decode cX6_read 46 = .ok (.invokevirtual 155, 3) := by decide +kernel
theorem dX6_read_49 : decode cX6_read 49 = .ok (.aload_n 0, 1) := by decide +kernel
theorem dX6_read_50 : decode cX6_read 50 = .ok (.getfield 132, 3) := by decide +kernel
theorem dX6_read_53 : decode cX6_read 53 = .ok (.iconst 3, 1) := by decide +kernel
theorem dX6_read_54 : decode cX6_read 54 = .ok (.if_icmp .eq 11, 3) := by decide +kernel
theorem dX6_read_57 : decode cX6_read 57 = .ok (.bipush (-10), 2) := by decide +kernel
theorem dX6_read_59 : decode cX6_read 59 = .ok (.aload_n 0, 1) := by decide +kernel
theorem dX6_read_60 : decode cX6_read 60 = .ok (.getfield 123, 3) := by decide +kernel
theorem dX6_read_63 : decode cX6_read 63 = .ok (.isub, 1) := by decide +kernel
theorem dX6_read_64 : decode cX6_read 64 = .ok (.ireturn, 1) := by decide +kernel
theorem dX6_read_65 : decode cX6_read 65 = .ok (.iinc 1 1, 3) := by decide +kernel
theorem dX6_read_68 : decode cX6_read 68 = .ok (.aload_n 0, 1) := by decide +kernel
theorem dX6_read_69 : decode cX6_read 69 = .ok (.invokevirtual 155, 3) := by decide +kernel
theorem dX6_read_72 : decode cX6_read 72 = .ok (.goto (-54), 3) := by decide +kernel
theorem dX6_read_75 : decode cX6_read 75 = .ok (.aload_n 0, 1) := by decide +kernel
theorem dX6_read_76 : decode cX6_read 76 = .ok (.getfield 13, 3) := by decide +kernel
theorem dX6_read_79 : decode cX6_read 79 = .ok (.iconst 0, 1) := by decide +kernel
theorem dX6_read_80 : decode cX6_read 80 = .ok (.aload_n 0, 1) := by decide +kernel
theorem dX6_read_81 : decode cX6_read 81 = .ok (.getfield 7, 3) := by decide +kernel
theorem dX6_read_84 : decode cX6_read 84 = .ok (.iconst 0, 1) := by decide +kernel
theorem dX6_read_85 : decode cX6_read 85 = .ok (.sipush 399, 3) := by decide +kernel
theorem dX6_read_88 : decode cX6_read 88 = .ok (.invokestatic 82, 3) := by decide +kernel
theorem dX6_read_91 : decode cX6_read 91 = .ok (.iload_n 1, 1) := by decide +kernel
theorem dX6_read_92 : decode cX6_read 92 = .ok (.ireturn, 1) := by decide +kernel
theorem dX6_sits_0 : decode cX6_sits 0 = .ok (.aload_n 0, 1) := by decide +kernel
theorem dX6_sits_1 : decode cX6_sits 1 = .ok (.iload_n 1, 1) := by decide +kernel
theorem dX6_sits_2 : decode cX6_sits 2 = .ok (.invokevirtual 194, 3) := by decide +kernel
theorem dX6_sits_5 : decode cX6_sits 5 = .ok (.ifCond .eq 16, 3) := by decide +kernel
theorem dX6_sits_8 : decode cX6_sits 8 = .ok (.iload_n 2, 1) := by decide +kernel
theorem dX6_sits_9 : decode cX6_sits 9 = .ok (.iconst (-1), 1) := by decide +kernel
theorem dX6_sits_10 : decode cX6_sits 10 = .ok (.if_icmp .eq 16, 3) := by decide +kernel
theorem dX6_sits_13 : decode cX6_sits 13 = .ok (.aload_n 0, 1) := by decide +kernel
theorem dX6_sits_14 : decode cX6_sits 14 = .ok (.iload_n 2, 1) := by decide +kernel
theorem dX6_sits_15 : decode cX6_sits 15 = .ok (.invokevirtual 197, 3) := by decide +kernel
theorem dX6_sits_18 : decode cX6_sits 18 = .ok (.ifCond .ne 8, 3) := by decide +kernel
theorem dX6_sits_21 : decode cX6_sits 21 = .ok (.aload_n 0, 1) := by decide +kernel
theorem dX6_sits_22 : decode cX6_sits 22 = .ok (.invokevirtual 200, 3) := by decide +kernel
theorem dX6_sits_25 : decode cX6_sits 25 = .ok (.ireturn, 1) := by decide +kernel
theorem dX6_sits_26 : decode cX6_sits 26 = .ok (.iload_n 2, 1) := by decide +kernel
theorem dX6_sits_27 : decode cX6_sits 27 = .ok (.iconst (-1), 1) := by decide +kernel
theorem dX6_sits_28 : decode cX6_sits 28 = .ok (.if_icmp .ne 7, 3) := by decide +kernel
theorem dX6_sits_31 : decode cX6_sits 31 = .ok (.iconst (-1), 1) := by decide +kernel
theorem dX6_sits_32 : decode cX6_sits 32 = .ok (.goto 11, 3) := by decide +kernel
theorem dX6_sits_35 : decode cX6_sits 35 = .ok (.aload_n 0, 1) := by decide +kernel
theorem dX6_sits_36 : decode cX6_sits 36 = .ok (.getfield 7, 3) := by decide +kernel
theorem dX6_sits_39 : decode cX6_sits 39 = .ok (.iload_n 2, 1) := by decide +kernel
theorem dX6_sits_40 : decode cX6_sits 40 = .ok (.invokestatic 162, 3) := by decide +kernel
theorem dX6_sits_43 : decode cX6_sits 43 = .ok (.istore_n 3, 1) := by decide +kernel
theorem dX6_sits_44 : decode cX6_sits 44 = .ok (.iload_n 3, 1) := by decide +kernel
theorem dX6_sits_45 : decode cX6_sits 45 = .ok (.iconst (-1), 1) := by decide +kernel
theorem dX6_sits_46 : decode cX6_sits 46 = .ok (.if_icmp .eq 16, 3) := by decide +kernel
theorem dX6_sits_49 : decode cX6_sits 49 = .ok (.iload_n 3, 1) := by decide +kernel
theorem dX6_sits_50 : decode cX6_sits 50 = .ok (.iload_n 1, 1) := by decide +kernel
theorem dX6_sits_51 : decode cX6_sits 51 = .ok (.if_icmp .eq 11, 3) := by decide +kernel
theorem dX6_sits_54 : decode cX6_sits 54 = .ok (.aload_n 0, 1) := by decide +kernel
theorem dX6_sits_55 : decode cX6_sits 55 = .ok (.iconst 1, 1) := by decide +kernel
theorem dX6_sits_56 : decode cX6_sits 56 = .ok (.bipush (-3), 2) := by decide +kernel
theorem dX6_sits_58 : decode cX6_sits 58 = .ok (.invokevirtual 52, 3) := by decide +kernel
theorem dX6_sits_61 : decode cX6_sits 61 = .ok (.ireturn, 1) := by decide +kernel
theorem dX6_sits_62 : decode cX6_sits 62 = .ok (.aload_n 0, 1) := by decide +kernel
theorem dX6_sits_63 : decode cX6_sits 63 = .ok (.invokevirtual 203, 3) := by decide +kernel
theorem dX6_sits_66 : decode cX6_sits 66 = .ok (.aload_n 0, 1) := by decide +kernel
theorem dX6_sits_67 : decode cX6_sits 67 = .ok (.getfield 7, 3) := by decide +kernel
theorem dX6_sits_70 : decode cX6_sits 70 = .ok (.iconst 0, 1) := by decide +kernel
theorem dX6_sits_71 : decode cX6_sits 71 = .ok (.iload_n 1, 1) := by decide +kernel
theorem dX6_sits_72 : decode cX6_sits 72 = .ok (.iadd, 1) := by decide +kernel
theorem dX6_sits_73 : decode cX6_sits 73 = .ok (.iaload, 1) := by decide +kernel
theorem dX6_sits_74 : decode cX6_sits 74 = .ok (.istore 4, 2) := by decide +kernel
theorem dX6_sits_76 : decode cX6_sits 76 = .ok (.aload_n 0, 1) := by decide +kernel
theorem dX6_sits_77 : decode cX6_sits 77 = .ok (.getfield 7, 3) := by decide +kernel
theorem dX6_sits_80 : decode cX6_sits 80 = .ok (.iconst 0, 1) := by decide +kernel
theorem dX6_sits_81 : decode cX6_sits 81 = .ok (.iload_n 1, 1) := by decide +kernel
theorem dX6_sits_82 : decode cX6_sits 82 = .ok (.iadd, 1) := by decide +kernel
theorem dX6_sits_83 : decode cX6_sits 83 = .ok (.iload_n 2, 1) := by decide +kernel
theorem dX6_sits_84 : decode cX6_sits 84 = .ok (.iastore, 1) := by decide +kernel
theorem dX6_sits_85 : decode cX6_sits 85 = .ok (.iload 4, 2) := by decide +kernel
theorem dX6_sits_87 : decode cX6_sits 87 = .ok (.ireturn, 1) := by decide +kernel
theorem dX6_swaps_0 : decode cX6_swaps 0 = .ok (.aload_n 0, 1) := by decide +kernel
theorem dX6_swaps_1 : decode cX6_swaps 1 = .ok (.iconst 0, 1) := by decide +kernel
theorem dX6_swaps_2 : decode cX6_swaps 2 = .ok (.iload_n 1, 1) := by decide +kernel
theorem dX6_swaps_3 : decode cX6_swaps 3 = .ok (.iadd, 1) := by decide +kernel
theorem dX6_swaps_4 : decode cX6_swaps 4 = .ok (.iaload, 1) := by decide +kernel
theorem dX6_swaps_5 : decode cX6_swaps 5 = .ok (.istore_n 3, 1) := by decide +kernel
theorem dX6_swaps_6 : decode cX6_swaps 6 = .ok (.aload_n 0, 1) := by decide +kernel
theorem dX6_swaps_7 : decode cX6_swaps 7 = .ok (.iconst 0, 1) := by decide +kernel
theorem dX6_swaps_8 : decode cX6_swaps 8 = .ok (.iload_n 1, 1) := by decide +kernel
theorem dX6_swaps_9 : decode cX6_swaps 9 = .ok (.iadd, 1) := by decide +kernel
theorem dX6_swaps_10 : decode cX6_swaps 10 = .ok (.aload_n 0, 1) := by decide +kernel
theorem dX6_swaps_11 : decode cX6_swaps 11 = .ok (.iconst 0, 1) := by decide +kernel
theorem dX6_swaps_12 : decode cX6_swaps 12 = .ok (.iload_n 2, 1) := by decide +kernel
theorem dX6_swaps_13 : decode cX6_swaps 13 = .ok (.iadd, 1) := by decide +kernel
theorem dX6_swaps_14 : decode cX6_swaps 14 = .ok (.iaload, 1) := by decide +kernel
theorem dX6_swaps_15 : decode cX6_swaps 15 = .ok (.iastore, 1) := by decide +kernel
theorem dX6_swaps_16 : decode cX6_swaps 16 = .ok (.aload_n 0, 1) := by decide +kernel
theorem dX6_swaps_17 : decode cX6_swaps 17 = .ok (.iconst 0, 1) := by decide +kernel
theorem dX6_swaps_18 : decode cX6_swaps 18 = .ok (.iload_n 2, 1) := by decide +kernel
theorem dX6_swaps_19 : decode cX6_swaps 19 = .ok (.iadd, 1) := by decide +kernel
theorem dX6_swaps_20 : decode cX6_swaps 20 = .ok (.iload_n 3, 1) := by decide +kernel
theorem dX6_swaps_21 : decode cX6_swaps 21 = .ok (.iastore, 1) := by decide +kernel
theorem dX6_swaps_22 : decode cX6_swaps 22 = .ok (.return_, 1) := by decide +kernel
theorem dX6_swap_0 : decode cX6_swap 0 = .ok (.aload_n 0, 1) := by decide +kernel
theorem dX6_swap_1 : decode cX6_swap 1 = .ok (.iload_n 1, 1) := by decide +kernel
theorem dX6_swap_2 : decode cX6_swap 2 = .ok (.invokevirtual 194, 3) := by decide +kernel
theorem dX6_swap_5 : decode cX6_swap 5 = .ok (.ifCond .eq 16, 3) := by decide +kernel
theorem dX6_swap_8 : decode cX6_swap 8 = .ok (.aload_n 0, 1) := by decide +kernel
theorem dX6_swap_9 : decode cX6_swap 9 = .ok (.iload_n 2, 1) := by decide +kernel
theorem dX6_swap_10 : decode cX6_swap 10 = .ok (.invokevirtual 194, 3) := by decide +kernel
theorem dX6_swap_13 : decode cX6_swap 13 = .ok (.ifCond .eq 8, 3) := by decide +kernel
theorem dX6_swap_16 : decode cX6_swap 16 = .ok (.iload_n 1, 1) := by decide +kernel
theorem dX6_swap_17 : decode cX6_swap 17 = .ok (.iload_n 2, 1) := by decide +kernel
theorem dX6_swap_18 : decode cX6_swap 18 = .ok (.if_icmp .ne 8, 3) := by decide +kernel
theorem dX6_swap_21 : decode cX6_swap 21 = .ok (.aload_n 0, 1) := by decide +kernel
theorem dX6_swap_22 : decode cX6_swap 22 = .ok (.invokevirtual 100, 3) := by decide +kernel
theorem dX6_swap_25 : decode cX6_swap 25 = .ok (.ireturn, 1) := by decide +kernel
theorem dX6_swap_26 : decode cX6_swap 26 = .ok (.aload_n 0, 1) := by decide +kernel
theorem dX6_swap_27 : decode cX6_swap 27 = .ok (.invokevirtual 203, 3) := by decide +kernel
theorem dX6_swap_30 : decode cX6_swap 30 = .ok (.aload_n 0, 1) := by decide +kernel
theorem dX6_swap_31 : decode cX6_swap 31 = .ok (.getfield 7, 3) := by decide +kernel
theorem dX6_swap_34 : decode cX6_swap 34 = .ok (.iload_n 1, 1) := by decide +kernel
theorem dX6_swap_35 : decode cX6_swap 35 = .ok (.iload_n 2, 1) := by decide +kernel
theorem dX6_swap_36 : decode cX6_swap 36 = .ok (.invokestatic 206, 3) := by decide +kernel
theorem dX6_swap_39 : decode cX6_swap 39 = .ok (.iconst 1, 1) := by decide +kernel
theorem dX6_swap_40 : decode cX6_swap 40 = .ok (.ireturn, 1) := by decide +kernel
theorem dX6_year_0 : decode cX6_year 0 = .ok (.iload_n 1, 1) := by decide +kernel
theorem dX6_year_1 : decode cX6_year 1 = .ok (.i2l, 1) := by decide +kernel
theorem dX6_year_2 : decode cX6_year 2 = .ok (.lconst 1, 1) := by decide +kernel
theorem dX6_year_3 : decode cX6_year 3 = .ok (.ldc2_w 210, 3) := by decide +kernel
theorem dX6_year_6 : decode cX6_year 6 = .ok (.invokestatic 86, 3) := by decide +kernel
theorem dX6_year_9 : decode cX6_year 9 = .ok (.ifCond .ne 8, 3) := by decide +kernel
theorem dX6_year_12 : decode cX6_year 12 = .ok (.aload_n 0, 1) := by decide +kernel
theorem dX6_year_13 : decode cX6_year 13 = .ok (.invokevirtual 100, 3) := by decide +kernel
theorem dX6_year_16 : decode cX6_year 16 = .ok (.ireturn, 1) := by decide +kernel
theorem dX6_year_17 : decode cX6_year 17 = .ok (.aload_n 0, 1) := by decide +kernel
theorem dX6_year_18 : decode cX6_year 18 = .ok (.invokevirtual 203, 3) := by decide +kernel
theorem dX6_year_21 : decode cX6_year 21 = .ok (.iconst 0, 1) := by decide +kernel
theorem dX6_year_22 : decode cX6_year 22 = .ok (.istore_n 2, 1) := by decide +kernel
theorem dX6_year_23 : decode cX6_year 23 = .ok (.iload_n 2, 1) := by decide +kernel
theorem dX6_year_24 : decode cX6_year 24 = .ok (.iload_n 1, 1) := by decide +kernel
theorem dX6_year_25 : decode cX6_year 25 = .ok (.if_icmp .ge 30, 3) := by decide +kernel
theorem dX6_year_28 : decode cX6_year 28 = .ok (.aload_n 0, 1) := by decide +kernel
theorem dX6_year_29 : decode cX6_year 29 = .ok (.getfield 7, 3) := by decide +kernel
theorem dX6_year_32 : decode cX6_year 32 = .ok (.bipush 32, 2) := by decide +kernel
theorem dX6_year_34 : decode cX6_year 34 = .ok (.iaload, 1) := by decide +kernel
theorem dX6_year_35 : decode cX6_year 35 = .ok (.sipush 999, 3) := by decide +kernel
theorem dX6_year_38 : decode cX6_year 38 = .ok (.if_icmp .ge 17, 3) := by decide +kernel
theorem dX6_year_41 : decode cX6_year 41 = .ok (.aload_n 0, 1) := by decide +kernel
theorem dX6_year_42 : decode cX6_year 42 = .ok (.aload_n 0, 1) := by decide +kernel
theorem dX6_year_43 : decode cX6_year 43 = .ok (.getfield 7, 3) := by decide +kernel
theorem dX6_year_46 : decode cX6_year 46 = .ok (.invokevirtual 168, 3) := by decide +kernel
theorem dX6_year_49 : decode cX6_year 49 = .ok (.iinc 2 1, 3) := by decide +kernel
theorem dX6_year_52 : decode cX6_year 52 = .ok (.goto (-29), 3) := by decide +kernel
theorem dX6_year_55 : decode cX6_year 55 = .ok (.aload_n 0, 1) := by decide +kernel
theorem dX6_year_56 : decode cX6_year 56 = .ok (.aload_n 0, 1) := by decide +kernel
theorem dX6_year_57 : decode cX6_year 57 = .ok (.getfield 7, 3) := by decide +kernel
theorem dX6_year_60 : decode cX6_year 60 = .ok (.invokevirtual 212, 3) := by decide +kernel
theorem dX6_year_63 : decode cX6_year 63 = .ok (.ireturn, 1) := by decide +kernel
theorem dX6_undo_0 : decode cX6_undo 0 = .ok (.aload_n 0, 1) := by decide +kernel
theorem dX6_undo_1 : decode cX6_undo 1 = .ok (.getfield 7, 3) := by decide +kernel
theorem dX6_undo_4 : decode cX6_undo 4 = .ok (.sipush 134, 3) := by decide +kernel
theorem dX6_undo_7 : decode cX6_undo 7 = .ok (.iaload, 1) := by decide +kernel
theorem dX6_undo_8 : decode cX6_undo 8 = .ok (.ifCond .ne 11, 3) := by decide +kernel
theorem dX6_undo_11 : decode cX6_undo 11 = .ok (.aload_n 0, 1) := by decide +kernel
theorem dX6_undo_12 : decode cX6_undo 12 = .ok (.iconst 1, 1) := by decide +kernel
theorem dX6_undo_13 : decode cX6_undo 13 = .ok (.bipush (-3), 2) := by decide +kernel
theorem dX6_undo_15 : decode cX6_undo 15 = .ok (.invokevirtual 52, 3) := by decide +kernel
theorem dX6_undo_18 : decode cX6_undo 18 = .ok (.ireturn, 1) := by decide +kernel
theorem dX6_undo_19 : decode cX6_undo 19 = .ok (.aload_n 0, 1) := by decide +kernel
theorem dX6_undo_20 : decode cX6_undo 20 = .ok (.getfield 7, 3) := by decide +kernel
theorem dX6_undo_23 : decode cX6_undo 23 = .ok (.sipush 134, 3) := by decide +kernel
theorem dX6_undo_26 : decode cX6_undo 26 = .ok (.dup2, 1) := by decide +kernel
theorem dX6_undo_27 : decode cX6_undo 27 = .ok (.iaload, 1) := by decide +kernel
theorem dX6_undo_28 : decode cX6_undo 28 = .ok (.iconst 1, 1) := by decide +kernel
theorem dX6_undo_29 : decode cX6_undo 29 = .ok (.isub, 1) := by decide +kernel
theorem dX6_undo_30 : decode cX6_undo 30 = .ok (.iastore, 1) := by decide +kernel
theorem dX6_undo_31 : decode cX6_undo 31 = .ok (.aload_n 0, 1) := by decide +kernel
theorem dX6_undo_32 : decode cX6_undo 32 = .ok (.getfield 7, 3) := by decide +kernel
theorem dX6_undo_35 : decode cX6_undo 35 = .ok (.sipush 135, 3) := by decide +kernel
theorem dX6_undo_38 : decode cX6_undo 38 = .ok (.bipush 33, 2) := by decide +kernel
theorem dX6_undo_40 : decode cX6_undo 40 = .ok (.aload_n 0, 1) := by decide +kernel
theorem dX6_undo_41 : decode cX6_undo 41 = .ok (.getfield 7, 3) := by decide +kernel
theorem dX6_undo_44 : decode cX6_undo 44 = .ok (.sipush 134, 3) := by decide +kernel
theorem dX6_undo_47 : decode cX6_undo 47 = .ok (.iaload, 1) := by decide +kernel
theorem dX6_undo_48 : decode cX6_undo 48 = .ok (.imul, 1) := by decide +kernel
theorem dX6_undo_49 : decode cX6_undo 49 = .ok (.iadd, 1) := by decide +kernel
theorem dX6_undo_50 : decode cX6_undo 50 = .ok (.aload_n 0, 1) := by decide +kernel
theorem dX6_undo_51 : decode cX6_undo 51 = .ok (.getfield 7, 3) := by decide +kernel
theorem dX6_undo_54 : decode cX6_undo 54 = .ok (.iconst 0, 1) := by decide +kernel
theorem dX6_undo_55 : decode cX6_undo 55 = .ok (.bipush 33, 2) := by decide +kernel
theorem dX6_undo_57 : decode cX6_undo 57 = .ok (.invokestatic 82, 3) := by decide +kernel
theorem dX6_undo_60 : decode cX6_undo 60 = .ok (.aload_n 0, 1) := by decide +kernel
theorem dX6_undo_61 : decode cX6_undo 61 = .ok (.getfield 7, 3) := by decide +kernel
theorem dX6_undo_64 : decode cX6_undo 64 = .ok (.bipush 32, 2) := by decide +kernel
theorem dX6_undo_66 : decode cX6_undo 66 = .ok (.iaload, 1) := by decide +kernel
theorem dX6_undo_67 : decode cX6_undo 67 = .ok (.ireturn, 1) := by decide +kernel
theorem dX6_of_0 : decode cX6_of 0 = .ok (.aload_n 0, 1) := by decide +kernel
theorem dX6_of_1 : decode cX6_of 1 = .ok (.iload_n 1, 1) := by decide +kernel
theorem dX6_of_2 : decode cX6_of 2 = .ok (.invokevirtual 197, 3) := by decide +kernel
theorem dX6_of_5 : decode cX6_of 5 = .ok (.ifCond .eq 15, 3) := by decide +kernel
theorem dX6_of_8 : decode cX6_of 8 = .ok (.iload_n 2, 1) := by decide +kernel
theorem dX6_of_9 : decode cX6_of 9 = .ok (.i2l, 1) := by decide +kernel
theorem dX6_of_10 : decode cX6_of 10 = .ok (.lconst 0, 1) := by decide +kernel
theorem dX6_of_11 : decode cX6_of 11 = .ok (.ldc2_w 90, 3) := by decide +kernel
theorem dX6_of_14 : decode cX6_of 14 = .ok (.invokestatic 86, 3) := by decide +kernel
theorem dX6_of_17 : decode cX6_of 17 = .ok (.ifCond .ne 8, 3) := by decide +kernel
theorem dX6_of_20 : decode cX6_of 20 = .ok (.aload_n 0, 1) := by decide +kernel
theorem dX6_of_21 : decode cX6_of 21 = .ok (.invokevirtual 200, 3) := by decide +kernel
theorem dX6_of_24 : decode cX6_of 24 = .ok (.ireturn, 1) := by decide +kernel
theorem dX6_of_25 : decode cX6_of 25 = .ok (.iload_n 2, 1) := by decide +kernel
theorem dX6_of_26 : decode cX6_of 26 = .ok (.ifCond .ne 15, 3) := by decide +kernel
theorem dX6_of_29 : decode cX6_of 29 = .ok (.aload_n 0, 1) := by decide +kernel
theorem dX6_of_30 : decode cX6_of 30 = .ok (.getfield 7, 3) := by decide +kernel
theorem dX6_of_33 : decode cX6_of 33 = .ok (.bipush 34, 2) := by decide +kernel
theorem dX6_of_35 : decode cX6_of 35 = .ok (.iload_n 1, 1) := by decide +kernel
theorem dX6_of_36 : decode cX6_of 36 = .ok (.iadd, 1) := by decide +kernel
theorem dX6_of_37 : decode cX6_of 37 = .ok (.iaload, 1) := by decide +kernel
theorem dX6_of_38 : decode cX6_of 38 = .ok (.goto 45, 3) := by decide +kernel
theorem dX6_of_41 : decode cX6_of 41 = .ok (.iload_n 2, 1) := by decide +kernel
theorem dX6_of_42 : decode cX6_of 42 = .ok (.iconst 1, 1) := by decide +kernel
theorem dX6_of_43 : decode cX6_of 43 = .ok (.if_icmp .ne 15, 3) := by decide +kernel
theorem dX6_of_46 : decode cX6_of 46 = .ok (.aload_n 0, 1) := by decide +kernel
theorem dX6_of_47 : decode cX6_of 47 = .ok (.getfield 7, 3) := by decide +kernel
theorem dX6_of_50 : decode cX6_of 50 = .ok (.bipush 41, 2) := by decide +kernel
theorem dX6_of_52 : decode cX6_of 52 = .ok (.iload_n 1, 1) := by decide +kernel
theorem dX6_of_53 : decode cX6_of 53 = .ok (.iadd, 1) := by decide +kernel
theorem dX6_of_54 : decode cX6_of 54 = .ok (.iaload, 1) := by decide +kernel
theorem dX6_of_55 : decode cX6_of 55 = .ok (.goto 28, 3) := by decide +kernel
theorem dX6_of_58 : decode cX6_of 58 = .ok (.iload_n 2, 1) := by decide +kernel
theorem dX6_of_59 : decode cX6_of 59 = .ok (.iconst 2, 1) := by decide +kernel
theorem dX6_of_60 : decode cX6_of 60 = .ok (.if_icmp .ne 15, 3) := by decide +kernel
theorem dX6_of_63 : decode cX6_of 63 = .ok (.aload_n 0, 1) := by decide +kernel
theorem dX6_of_64 : decode cX6_of 64 = .ok (.getfield 7, 3) := by decide +kernel
theorem dX6_of_67 : decode cX6_of 67 = .ok (.bipush 25, 2) := by decide +kernel
theorem dX6_of_69 : decode cX6_of 69 = .ok (.iload_n 1, 1) := by decide +kernel
theorem dX6_of_70 : decode cX6_of 70 = .ok (.iadd, 1) := by decide +kernel
theorem dX6_of_71 : decode cX6_of 71 = .ok (.iaload, 1) := by decide +kernel
theorem dX6_of_72 : decode cX6_of 72 = .ok (.goto 11, 3) := by decide +kernel
theorem dX6_of_75 : decode cX6_of 75 = .ok (.aload_n 0, 1) := by decide +kernel
theorem dX6_of_76 : decode cX6_of 76 = .ok (.getfield 7, 3) := by decide +kernel
theorem dX6_of_79 : decode cX6_of 79 = .ok (.iload_n 1, 1) := by decide +kernel
theorem dX6_of_80 : decode cX6_of 80 = .ok (.invokestatic 162, 3) := by decide +kernel
theorem dX6_of_83 : decode cX6_of 83 = .ok (.ireturn, 1) := by decide +kernel
theorem dX6_about_0 : decode cX6_about 0 = .ok (.aload_n 0, 1) := by decide +kernel
theorem dX6_about_1 : decode cX6_about 1 = .ok (.iload_n 1, 1) := by decide +kernel
theorem dX6_about_2 : decode cX6_about 2 = .ok (.invokevirtual 194, 3) := by decide +kernel
theorem dX6_about_5 : decode cX6_about 5 = .ok (.ifCond .ne 8, 3) := by decide +kernel
theorem dX6_about_8 : decode cX6_about 8 = .ok (.aload_n 0, 1) := by decide +kernel
theorem dX6_about_9 : decode cX6_about 9 = .ok (.invokevirtual 200, 3) := by decide +kernel
theorem dX6_about_12 : decode cX6_about 12 = .ok (.ireturn, 1) := by decide +kernel
theorem dX6_about_13 : decode cX6_about 13 = .ok (.iload_n 2, 1) := by decide +kernel
theorem dX6_about_14 : decode cX6_about 14 = .ok (.tableswitch 94 0 4 #[34, 44, 54, 63, 72], 34) := by decide +kernel
theorem dX6_about_48 : decode cX6_about 48 = .ok (.aload_n 0, 1) := by decide +kernel
theorem dX6_about_49 : decode cX6_about 49 = .ok (.getfield 7, 3) := by decide +kernel
theorem dX6_about_52 : decode cX6_about 52 = .ok (.bipush 49, 2) := by decide +kernel
theorem dX6_about_54 : decode cX6_about 54 = .ok (.iload_n 1, 1) := by decide +kernel
theorem dX6_about_55 : decode cX6_about 55 = .ok (.iadd, 1) := by decide +kernel
theorem dX6_about_56 : decode cX6_about 56 = .ok (.iaload, 1) := by decide +kernel
theorem dX6_about_57 : decode cX6_about 57 = .ok (.ireturn, 1) := by decide +kernel
theorem dX6_about_58 : decode cX6_about 58 = .ok (.aload_n 0, 1) := by decide +kernel
theorem dX6_about_59 : decode cX6_about 59 = .ok (.getfield 7, 3) := by decide +kernel
theorem dX6_about_62 : decode cX6_about 62 = .ok (.bipush 54, 2) := by decide +kernel
theorem dX6_about_64 : decode cX6_about 64 = .ok (.iload_n 1, 1) := by decide +kernel
theorem dX6_about_65 : decode cX6_about 65 = .ok (.iadd, 1) := by decide +kernel
theorem dX6_about_66 : decode cX6_about 66 = .ok (.iaload, 1) := by decide +kernel
theorem dX6_about_67 : decode cX6_about 67 = .ok (.ireturn, 1) := by decide +kernel
theorem dX6_about_68 : decode cX6_about 68 = .ok (.aload_n 0, 1) := by decide +kernel
theorem dX6_about_69 : decode cX6_about 69 = .ok (.getfield 7, 3) := by decide +kernel
theorem dX6_about_72 : decode cX6_about 72 = .ok (.iconst 0, 1) := by decide +kernel
theorem dX6_about_73 : decode cX6_about 73 = .ok (.iload_n 1, 1) := by decide +kernel
theorem dX6_about_74 : decode cX6_about 74 = .ok (.iadd, 1) := by decide +kernel
theorem dX6_about_75 : decode cX6_about 75 = .ok (.iaload, 1) := by decide +kernel
theorem dX6_about_76 : decode cX6_about 76 = .ok (.ireturn, 1) := by decide +kernel
theorem dX6_about_77 : decode cX6_about 77 = .ok (.aload_n 0, 1) := by decide +kernel
theorem dX6_about_78 : decode cX6_about 78 = .ok (.getfield 7, 3) := by decide +kernel
theorem dX6_about_81 : decode cX6_about 81 = .ok (.iload_n 1, 1) := by decide +kernel
theorem dX6_about_82 : decode cX6_about 82 = .ok (.invokestatic 78, 3) := by decide +kernel
theorem dX6_about_85 : decode cX6_about 85 = .ok (.ireturn, 1) := by decide +kernel
theorem dX6_about_86 : decode cX6_about 86 = .ok (.aload_n 0, 1) := by decide +kernel
theorem dX6_about_87 : decode cX6_about 87 = .ok (.getfield 7, 3) := by decide +kernel
theorem dX6_about_90 : decode cX6_about 90 = .ok (.bipush 49, 2) := by decide +kernel
theorem dX6_about_92 : decode cX6_about 92 = .ok (.iload_n 1, 1) := by decide +kernel
theorem dX6_about_93 : decode cX6_about 93 = .ok (.iadd, 1) := by decide +kernel
theorem dX6_about_94 : decode cX6_about 94 = .ok (.iaload, 1) := by decide +kernel
theorem dX6_about_95 : decode cX6_about 95 = .ok (.aload_n 0, 1) := by decide +kernel
theorem dX6_about_96 : decode cX6_about 96 = .ok (.getfield 7, 3) := by decide +kernel
theorem dX6_about_99 : decode cX6_about 99 = .ok (.bipush 54, 2) := by decide +kernel
theorem dX6_about_101 : decode cX6_about 101 = .ok (.iload_n 1, 1) := by decide +kernel
theorem dX6_about_102 : decode cX6_about 102 = .ok (.iadd, 1) := by decide +kernel
theorem dX6_about_103 : decode cX6_about 103 = .ok (.iaload, 1) := by decide +kernel
theorem dX6_about_104 : decode cX6_about 104 = .ok (.invokestatic 72, 3) := by decide +kernel
theorem dX6_about_107 : decode cX6_about 107 = .ok (.ireturn, 1) := by decide +kernel
theorem dX6_about_108 : decode cX6_about 108 = .ok (.aload_n 0, 1) := by decide +kernel
theorem dX6_about_109 : decode cX6_about 109 = .ok (.invokevirtual 200, 3) := by decide +kernel
theorem dX6_about_112 : decode cX6_about 112 = .ok (.ireturn, 1) := by decide +kernel
theorem dX6_taken_0 : decode cX6_taken 0 = .ok (.aload_n 0, 1) := by decide +kernel
theorem dX6_taken_1 : decode cX6_taken 1 = .ok (.iload_n 1, 1) := by decide +kernel
theorem dX6_taken_2 : decode cX6_taken 2 = .ok (.invokevirtual 194, 3) := by decide +kernel
theorem dX6_taken_5 : decode cX6_taken 5 = .ok (.ifCond .eq 25, 3) := by decide +kernel
theorem dX6_taken_8 : decode cX6_taken 8 = .ok (.iload_n 2, 1) := by decide +kernel
theorem dX6_taken_9 : decode cX6_taken 9 = .ok (.invokestatic 94, 3) := by decide +kernel
theorem dX6_taken_12 : decode cX6_taken 12 = .ok (.ifCond .eq 18, 3) := by decide +kernel
theorem dX6_taken_15 : decode cX6_taken 15 = .ok (.aload_n 0, 1) := by decide +kernel
theorem dX6_taken_16 : decode cX6_taken 16 = .ok (.getfield 7, 3) := by decide +kernel
theorem dX6_taken_19 : decode cX6_taken 19 = .ok (.iconst 5, 1) := by decide +kernel
theorem dX6_taken_20 : decode cX6_taken 20 = .ok (.iconst 4, 1) := by decide +kernel
theorem dX6_taken_21 : decode cX6_taken 21 = .ok (.iload_n 1, 1) := by decide +kernel
theorem dX6_taken_22 : decode cX6_taken 22 = .ok (.imul, 1) := by decide +kernel
theorem dX6_taken_23 : decode cX6_taken 23 = .ok (.iadd, 1) := by decide +kernel
theorem dX6_taken_24 : decode cX6_taken 24 = .ok (.iload_n 2, 1) := by decide +kernel
theorem dX6_taken_25 : decode cX6_taken 25 = .ok (.iadd, 1) := by decide +kernel
theorem dX6_taken_26 : decode cX6_taken 26 = .ok (.iaload, 1) := by decide +kernel
theorem dX6_taken_27 : decode cX6_taken 27 = .ok (.goto 7, 3) := by decide +kernel
theorem dX6_taken_30 : decode cX6_taken 30 = .ok (.aload_n 0, 1) := by decide +kernel
theorem dX6_taken_31 : decode cX6_taken 31 = .ok (.invokevirtual 100, 3) := by decide +kernel
theorem dX6_taken_34 : decode cX6_taken 34 = .ok (.ireturn, 1) := by decide +kernel
theorem dX6_takes_0 : decode cX6_takes 0 = .ok (.aload_n 0, 1) := by decide +kernel
theorem dX6_takes_1 : decode cX6_takes 1 = .ok (.iload_n 1, 1) := by decide +kernel
theorem dX6_takes_2 : decode cX6_takes 2 = .ok (.invokevirtual 194, 3) := by decide +kernel
theorem dX6_takes_5 : decode cX6_takes 5 = .ok (.ifCond .eq 24, 3) := by decide +kernel
theorem dX6_takes_8 : decode cX6_takes 8 = .ok (.aload_n 0, 1) := by decide +kernel
theorem dX6_takes_9 : decode cX6_takes 9 = .ok (.iload_n 2, 1) := by decide +kernel
theorem dX6_takes_10 : decode cX6_takes 10 = .ok (.invokevirtual 197, 3) := by decide +kernel
theorem dX6_takes_13 : decode cX6_takes 13 = .ok (.ifCond .eq 16, 3) := by decide +kernel
theorem dX6_takes_16 : decode cX6_takes 16 = .ok (.aload_n 0, 1) := by decide +kernel
theorem dX6_takes_17 : decode cX6_takes 17 = .ok (.aload_n 0, 1) := by decide +kernel
theorem dX6_takes_18 : decode cX6_takes 18 = .ok (.getfield 7, 3) := by decide +kernel
theorem dX6_takes_21 : decode cX6_takes 21 = .ok (.iload_n 1, 1) := by decide +kernel
theorem dX6_takes_22 : decode cX6_takes 22 = .ok (.iload_n 2, 1) := by decide +kernel
theorem dX6_takes_23 : decode cX6_takes 23 = .ok (.invokevirtual 64, 3) := by decide +kernel
theorem dX6_takes_26 : decode cX6_takes 26 = .ok (.goto 7, 3) := by decide +kernel
theorem dX6_takes_29 : decode cX6_takes 29 = .ok (.aload_n 0, 1) := by decide +kernel
theorem dX6_takes_30 : decode cX6_takes 30 = .ok (.invokevirtual 100, 3) := by decide +kernel
theorem dX6_takes_33 : decode cX6_takes 33 = .ok (.ireturn, 1) := by decide +kernel
theorem dX6_layYears_0 : decode cX6_layYears 0 = .ok (.aload_n 0, 1) := by decide +kernel
theorem dX6_layYears_1 : decode cX6_layYears 1 = .ok (.invokevirtual 216, 3) := by decide +kernel
theorem dX6_layYears_4 : decode cX6_layYears 4 = .ok (.iconst 0, 1) := by decide +kernel
theorem dX6_layYears_5 : decode cX6_layYears 5 = .ok (.istore_n 2, 1) := by decide +kernel
theorem dX6_layYears_6 : decode cX6_layYears 6 = .ok (.iload_n 2, 1) := by decide +kernel
theorem dX6_layYears_7 : decode cX6_layYears 7 = .ok (.iload_n 1, 1) := by decide +kernel
theorem dX6_layYears_8 : decode cX6_layYears 8 = .ok (.if_icmp .ge 17, 3) := by decide +kernel
theorem dX6_layYears_11 : decode cX6_layYears 11 = .ok (.aload_n 0, 1) := by decide +kernel
theorem dX6_layYears_12 : decode cX6_layYears 12 = .ok (.aload_n 0, 1) := by decide +kernel
theorem dX6_layYears_13 : decode cX6_layYears 13 = .ok (.getfield 16, 3) := by decide +kernel
theorem dX6_layYears_16 : decode cX6_layYears 16 = .ok (.invokevirtual 168, 3) := by decide +kernel
theorem dX6_layYears_19 : decode cX6_layYears 19 = .ok (.iinc 2 1, 3) := by decide +kernel
theorem dX6_layYears_22 : decode cX6_layYears 22 = .ok (.goto (-16), 3) := by decide +kernel
theorem dX6_layYears_25 : decode cX6_layYears 25 = .ok (.return_, 1) := by decide +kernel
theorem dX6_then_0 : decode cX6_then 0 = .ok (.aload_n 0, 1) := by decide +kernel
theorem dX6_then_1 : decode cX6_then 1 = .ok (.iload_n 1, 1) := by decide +kernel
theorem dX6_then_2 : decode cX6_then 2 = .ok (.invokevirtual 194, 3) := by decide +kernel
theorem dX6_then_5 : decode cX6_then 5 = .ok (.ifCond .eq 22, 3) := by decide +kernel
theorem dX6_then_8 : decode cX6_then 8 = .ok (.iload_n 2, 1) := by decide +kernel
theorem dX6_then_9 : decode cX6_then 9 = .ok (.invokestatic 94, 3) := by decide +kernel
theorem dX6_then_12 : decode cX6_then 12 = .ok (.ifCond .eq 15, 3) := by decide +kernel
theorem dX6_then_15 : decode cX6_then 15 = .ok (.iload_n 3, 1) := by decide +kernel
theorem dX6_then_16 : decode cX6_then 16 = .ok (.i2l, 1) := by decide +kernel
theorem dX6_then_17 : decode cX6_then 17 = .ok (.lconst 0, 1) := by decide +kernel
theorem dX6_then_18 : decode cX6_then 18 = .ok (.ldc2_w 219, 3) := by decide +kernel
theorem dX6_then_21 : decode cX6_then 21 = .ok (.invokestatic 86, 3) := by decide +kernel
theorem dX6_then_24 : decode cX6_then 24 = .ok (.ifCond .ne 8, 3) := by decide +kernel
theorem dX6_then_27 : decode cX6_then 27 = .ok (.aload_n 0, 1) := by decide +kernel
theorem dX6_then_28 : decode cX6_then 28 = .ok (.invokevirtual 100, 3) := by decide +kernel
theorem dX6_then_31 : decode cX6_then 31 = .ok (.ireturn, 1) := by decide +kernel
theorem dX6_then_32 : decode cX6_then 32 = .ok (.aload_n 0, 1) := by decide +kernel
theorem dX6_then_33 : decode cX6_then 33 = .ok (.iload_n 3, 1) := by decide +kernel
theorem dX6_then_34 : decode cX6_then 34 = .ok (.invokevirtual 221, 3) := by decide +kernel
theorem dX6_then_37 : decode cX6_then 37 = .ok (.aload_n 0, 1) := by decide +kernel
theorem dX6_then_38 : decode cX6_then 38 = .ok (.getfield 16, 3) := by decide +kernel
theorem dX6_then_41 : decode cX6_then 41 = .ok (.iconst 5, 1) := by decide +kernel
theorem dX6_then_42 : decode cX6_then 42 = .ok (.iconst 4, 1) := by decide +kernel
theorem dX6_then_43 : decode cX6_then 43 = .ok (.iload_n 1, 1) := by decide +kernel
theorem dX6_then_44 : decode cX6_then 44 = .ok (.imul, 1) := by decide +kernel
theorem dX6_then_45 : decode cX6_then 45 = .ok (.iadd, 1) := by decide +kernel
theorem dX6_then_46 : decode cX6_then 46 = .ok (.iload_n 2, 1) := by decide +kernel
theorem dX6_then_47 : decode cX6_then 47 = .ok (.iadd, 1) := by decide +kernel
theorem dX6_then_48 : decode cX6_then 48 = .ok (.iaload, 1) := by decide +kernel
theorem dX6_then_49 : decode cX6_then 49 = .ok (.ireturn, 1) := by decide +kernel
theorem dX6_depth_0 : decode cX6_depth 0 = .ok (.aload_n 0, 1) := by decide +kernel
theorem dX6_depth_1 : decode cX6_depth 1 = .ok (.iload_n 1, 1) := by decide +kernel
theorem dX6_depth_2 : decode cX6_depth 2 = .ok (.invokevirtual 197, 3) := by decide +kernel
theorem dX6_depth_5 : decode cX6_depth 5 = .ok (.ifCond .eq 15, 3) := by decide +kernel
theorem dX6_depth_8 : decode cX6_depth 8 = .ok (.iload_n 2, 1) := by decide +kernel
theorem dX6_depth_9 : decode cX6_depth 9 = .ok (.i2l, 1) := by decide +kernel
theorem dX6_depth_10 : decode cX6_depth 10 = .ok (.lconst 0, 1) := by decide +kernel
theorem dX6_depth_11 : decode cX6_depth 11 = .ok (.ldc2_w 219, 3) := by decide +kernel
theorem dX6_depth_14 : decode cX6_depth 14 = .ok (.invokestatic 86, 3) := by decide +kernel
theorem dX6_depth_17 : decode cX6_depth 17 = .ok (.ifCond .ne 8, 3) := by decide +kernel
theorem dX6_depth_20 : decode cX6_depth 20 = .ok (.aload_n 0, 1) := by decide +kernel
theorem dX6_depth_21 : decode cX6_depth 21 = .ok (.invokevirtual 100, 3) := by decide +kernel
theorem dX6_depth_24 : decode cX6_depth 24 = .ok (.ireturn, 1) := by decide +kernel
theorem dX6_depth_25 : decode cX6_depth 25 = .ok (.aload_n 0, 1) := by decide +kernel
theorem dX6_depth_26 : decode cX6_depth 26 = .ok (.iload_n 2, 1) := by decide +kernel
theorem dX6_depth_27 : decode cX6_depth 27 = .ok (.invokevirtual 221, 3) := by decide +kernel
theorem dX6_depth_30 : decode cX6_depth 30 = .ok (.aload_n 0, 1) := by decide +kernel
theorem dX6_depth_31 : decode cX6_depth 31 = .ok (.getfield 16, 3) := by decide +kernel
theorem dX6_depth_34 : decode cX6_depth 34 = .ok (.bipush 25, 2) := by decide +kernel
theorem dX6_depth_36 : decode cX6_depth 36 = .ok (.iload_n 1, 1) := by decide +kernel
theorem dX6_depth_37 : decode cX6_depth 37 = .ok (.iadd, 1) := by decide +kernel
theorem dX6_depth_38 : decode cX6_depth 38 = .ok (.iaload, 1) := by decide +kernel
theorem dX6_depth_39 : decode cX6_depth 39 = .ok (.ireturn, 1) := by decide +kernel
theorem dX6_untilTaken_0 : decode cX6_untilTaken 0 = .ok (.iconst 0, 1) := by decide +kernel
theorem dX6_untilTaken_1 : decode cX6_untilTaken 1 = .ok (.istore 4, 2) := by decide +kernel
theorem dX6_untilTaken_3 : decode cX6_untilTaken 3 = .ok (.iload 4, 2) := by decide +kernel
theorem dX6_untilTaken_5 : decode cX6_untilTaken 5 = .ok (.bipush 61, 2) := by decide +kernel
theorem dX6_untilTaken_7 : decode cX6_untilTaken 7 = .ok (.if_icmp .ge 36, 3) := by decide +kernel
theorem dX6_untilTaken_10 : decode cX6_untilTaken 10 = .ok (.aload_n 0, 1) := by decide +kernel
theorem dX6_untilTaken_11 : decode cX6_untilTaken 11 = .ok (.getfield 16, 3) := by decide +kernel
theorem dX6_untilTaken_14 : decode cX6_untilTaken 14 = .ok (.iconst 5, 1) := by decide +kernel
theorem dX6_untilTaken_15 : decode cX6_untilTaken 15 = .ok (.iconst 4, 1) := by decide +kernel
theorem dX6_untilTaken_16 : decode cX6_untilTaken 16 = .ok (.iload_n 1, 1) := by decide +kernel
theorem dX6_untilTaken_17 : decode cX6_untilTaken 17 = .ok (.imul, 1) := by decide +kernel
theorem dX6_untilTaken_18 : decode cX6_untilTaken 18 = .ok (.iadd, 1) := by decide +kernel
theorem dX6_untilTaken_19 : decode cX6_untilTaken 19 = .ok (.iload_n 2, 1) := by decide +kernel
theorem dX6_untilTaken_20 : decode cX6_untilTaken 20 = .ok (.iadd, 1) := by decide +kernel
theorem dX6_untilTaken_21 : decode cX6_untilTaken 21 = .ok (.iaload, 1) := by decide +kernel
theorem dX6_untilTaken_22 : decode cX6_untilTaken 22 = .ok (.iload_n 3, 1) := by decide +kernel
theorem dX6_untilTaken_23 : decode cX6_untilTaken 23 = .ok (.if_icmp .lt 6, 3) := by decide +kernel
theorem dX6_untilTaken_26 : decode cX6_untilTaken 26 = .ok (.iload 4, 2) := by decide +kernel
theorem dX6_untilTaken_28 : decode cX6_untilTaken 28 = .ok (.ireturn, 1) := by decide +kernel
theorem dX6_untilTaken_29 : decode cX6_untilTaken 29 = .ok (.aload_n 0, 1) := by decide +kernel
theorem dX6_untilTaken_30 : decode cX6_untilTaken 30 = .ok (.aload_n 0, 1) := by decide +kernel
theorem dX6_untilTaken_31 : decode cX6_untilTaken 31 = .ok (.getfield 16, 3) := by decide +kernel
theorem dX6_untilTaken_34 : decode cX6_untilTaken 34 = .ok (.invokevirtual 168, 3) := by decide +kernel
theorem dX6_untilTaken_37 : decode cX6_untilTaken 37 = .ok (.iinc 4 1, 3) := by decide +kernel
theorem dX6_untilTaken_40 : decode cX6_untilTaken 40 = .ok (.goto (-37), 3) := by decide +kernel
theorem dX6_untilTaken_43 : decode cX6_untilTaken 43 = .ok (.iconst (-1), 1) := by decide +kernel
theorem dX6_untilTaken_44 : decode cX6_untilTaken 44 = .ok (.ireturn, 1) := by decide +kernel
theorem dX6_when_0 : decode cX6_when 0 = .ok (.aload_n 0, 1) := by decide +kernel
theorem dX6_when_1 : decode cX6_when 1 = .ok (.iload_n 1, 1) := by decide +kernel
theorem dX6_when_2 : decode cX6_when 2 = .ok (.invokevirtual 194, 3) := by decide +kernel
theorem dX6_when_5 : decode cX6_when 5 = .ok (.ifCond .eq 22, 3) := by decide +kernel
theorem dX6_when_8 : decode cX6_when 8 = .ok (.iload_n 2, 1) := by decide +kernel
theorem dX6_when_9 : decode cX6_when 9 = .ok (.invokestatic 94, 3) := by decide +kernel
theorem dX6_when_12 : decode cX6_when 12 = .ok (.ifCond .eq 15, 3) := by decide +kernel
theorem dX6_when_15 : decode cX6_when 15 = .ok (.iload_n 3, 1) := by decide +kernel
theorem dX6_when_16 : decode cX6_when 16 = .ok (.i2l, 1) := by decide +kernel
theorem dX6_when_17 : decode cX6_when 17 = .ok (.lconst 1, 1) := by decide +kernel
theorem dX6_when_18 : decode cX6_when 18 = .ok (.ldc2_w 225, 3) := by decide +kernel
theorem dX6_when_21 : decode cX6_when 21 = .ok (.invokestatic 86, 3) := by decide +kernel
theorem dX6_when_24 : decode cX6_when 24 = .ok (.ifCond .ne 8, 3) := by decide +kernel
theorem dX6_when_27 : decode cX6_when 27 = .ok (.aload_n 0, 1) := by decide +kernel
theorem dX6_when_28 : decode cX6_when 28 = .ok (.invokevirtual 100, 3) := by decide +kernel
theorem dX6_when_31 : decode cX6_when 31 = .ok (.ireturn, 1) := by decide +kernel
theorem dX6_when_32 : decode cX6_when 32 = .ok (.aload_n 0, 1) := by decide +kernel
theorem dX6_when_33 : decode cX6_when 33 = .ok (.invokevirtual 216, 3) := by decide +kernel
theorem dX6_when_36 : decode cX6_when 36 = .ok (.aload_n 0, 1) := by decide +kernel
theorem dX6_when_37 : decode cX6_when 37 = .ok (.iload_n 1, 1) := by decide +kernel
theorem dX6_when_38 : decode cX6_when 38 = .ok (.iload_n 2, 1) := by decide +kernel
theorem dX6_when_39 : decode cX6_when 39 = .ok (.iload_n 3, 1) := by decide +kernel
theorem dX6_when_40 : decode cX6_when 40 = .ok (.invokevirtual 227, 3) := by decide +kernel
theorem dX6_when_43 : decode cX6_when 43 = .ok (.ireturn, 1) := by decide +kernel
theorem dX6_first_0 : decode cX6_first 0 = .ok (.iload_n 1, 1) := by decide +kernel
theorem dX6_first_1 : decode cX6_first 1 = .ok (.invokestatic 94, 3) := by decide +kernel
theorem dX6_first_4 : decode cX6_first 4 = .ok (.ifCond .eq 13, 3) := by decide +kernel
theorem dX6_first_7 : decode cX6_first 7 = .ok (.iload_n 2, 1) := by decide +kernel
theorem dX6_first_8 : decode cX6_first 8 = .ok (.i2l, 1) := by decide +kernel
theorem dX6_first_9 : decode cX6_first 9 = .ok (.lconst 0, 1) := by decide +kernel
theorem dX6_first_10 : decode cX6_first 10 = .ok (.lconst 1, 1) := by decide +kernel
theorem dX6_first_11 : decode cX6_first 11 = .ok (.invokestatic 86, 3) := by decide +kernel
theorem dX6_first_14 : decode cX6_first 14 = .ok (.ifCond .ne 8, 3) := by decide +kernel
theorem dX6_first_17 : decode cX6_first 17 = .ok (.aload_n 0, 1) := by decide +kernel
theorem dX6_first_18 : decode cX6_first 18 = .ok (.invokevirtual 100, 3) := by decide +kernel
theorem dX6_first_21 : decode cX6_first 21 = .ok (.ireturn, 1) := by decide +kernel
theorem dX6_first_22 : decode cX6_first 22 = .ok (.aload_n 0, 1) := by decide +kernel
theorem dX6_first_23 : decode cX6_first 23 = .ok (.invokevirtual 216, 3) := by decide +kernel
theorem dX6_first_26 : decode cX6_first 26 = .ok (.iconst 0, 1) := by decide +kernel
theorem dX6_first_27 : decode cX6_first 27 = .ok (.istore_n 3, 1) := by decide +kernel
theorem dX6_first_28 : decode cX6_first 28 = .ok (.iload_n 3, 1) := by decide +kernel
theorem dX6_first_29 : decode cX6_first 29 = .ok (.bipush 61, 2) := by decide +kernel
theorem dX6_first_31 : decode cX6_first 31 = .ok (.if_icmp .ge 62, 3) := by decide +kernel
theorem dX6_first_34 : decode cX6_first 34 = .ok (.iconst 0, 1) := by decide +kernel
theorem dX6_first_35 : decode cX6_first 35 = .ok (.istore 4, 2) := by decide +kernel
theorem dX6_first_37 : decode cX6_first 37 = .ok (.iload 4, 2) := by decide +kernel
theorem dX6_first_39 : decode cX6_first 39 = .ok (.aload_n 0, 1) := by decide +kernel
theorem dX6_first_40 : decode cX6_first 40 = .ok (.getfield 7, 3) := by decide +kernel
theorem dX6_first_43 : decode cX6_first 43 = .ok (.bipush 48, 2) := by decide +kernel
theorem dX6_first_45 : decode cX6_first 45 = .ok (.iaload, 1) := by decide +kernel
theorem dX6_first_46 : decode cX6_first 46 = .ok (.if_icmp .ge 33, 3) := by decide +kernel
theorem dX6_first_49 : decode cX6_first 49 = .ok (.aload_n 0, 1) := by decide +kernel
theorem dX6_first_50 : decode cX6_first 50 = .ok (.getfield 16, 3) := by decide +kernel
theorem dX6_first_53 : decode cX6_first 53 = .ok (.iload 4, 2) := by decide +kernel
theorem dX6_first_55 : decode cX6_first 55 = .ok (.invokestatic 78, 3) := by decide +kernel
theorem dX6_first_58 : decode cX6_first 58 = .ok (.iload_n 1, 1) := by decide +kernel
theorem dX6_first_59 : decode cX6_first 59 = .ok (.if_icmp .ne 14, 3) := by decide +kernel
theorem dX6_first_62 : decode cX6_first 62 = .ok (.iload_n 2, 1) := by decide +kernel
theorem dX6_first_63 : decode cX6_first 63 = .ok (.ifCond .ne 8, 3) := by decide +kernel
theorem dX6_first_66 : decode cX6_first 66 = .ok (.iload 4, 2) := by decide +kernel
theorem dX6_first_68 : decode cX6_first 68 = .ok (.goto 4, 3) := by decide +kernel
theorem dX6_first_71 : decode cX6_first 71 = .ok (.iload_n 3, 1) := by decide +kernel
theorem dX6_first_72 : decode cX6_first 72 = .ok (.ireturn, 1) := by decide +kernel
theorem dX6_first_73 : decode cX6_first 73 = .ok (.iinc 4 1, 3) := by decide +kernel
theorem dX6_first_76 : decode cX6_first 76 = .ok (.goto (-39), 3) := by decide +kernel
theorem dX6_first_79 : decode cX6_first 79 = .ok (.aload_n 0, 1) := by decide +kernel
theorem dX6_first_80 : decode cX6_first 80 = .ok (.aload_n 0, 1) := by decide +kernel
theorem dX6_first_81 : decode cX6_first 81 = .ok (.getfield 16, 3) := by decide +kernel
theorem dX6_first_84 : decode cX6_first 84 = .ok (.invokevirtual 168, 3) := by decide +kernel
theorem dX6_first_87 : decode cX6_first 87 = .ok (.iinc 3 1, 3) := by decide +kernel
theorem dX6_first_90 : decode cX6_first 90 = .ok (.goto (-62), 3) := by decide +kernel
theorem dX6_first_93 : decode cX6_first 93 = .ok (.iconst (-1), 1) := by decide +kernel
theorem dX6_first_94 : decode cX6_first 94 = .ok (.ireturn, 1) := by decide +kernel
theorem dX6_blank_0 : decode cX6_blank 0 = .ok (.aload_n 0, 1) := by decide +kernel
theorem dX6_blank_1 : decode cX6_blank 1 = .ok (.iload_n 1, 1) := by decide +kernel
theorem dX6_blank_2 : decode cX6_blank 2 = .ok (.invokevirtual 197, 3) := by decide +kernel
theorem dX6_blank_5 : decode cX6_blank 5 = .ok (.ifCond .ne 8, 3) := by decide +kernel
theorem dX6_blank_8 : decode cX6_blank 8 = .ok (.aload_n 0, 1) := by decide +kernel
theorem dX6_blank_9 : decode cX6_blank 9 = .ok (.invokevirtual 100, 3) := by decide +kernel
theorem dX6_blank_12 : decode cX6_blank 12 = .ok (.ireturn, 1) := by decide +kernel
theorem dX6_blank_13 : decode cX6_blank 13 = .ok (.aload_n 0, 1) := by decide +kernel
theorem dX6_blank_14 : decode cX6_blank 14 = .ok (.invokevirtual 216, 3) := by decide +kernel
theorem dX6_blank_17 : decode cX6_blank 17 = .ok (.iconst 0, 1) := by decide +kernel
theorem dX6_blank_18 : decode cX6_blank 18 = .ok (.istore_n 2, 1) := by decide +kernel
theorem dX6_blank_19 : decode cX6_blank 19 = .ok (.iload_n 2, 1) := by decide +kernel
theorem dX6_blank_20 : decode cX6_blank 20 = .ok (.bipush 61, 2) := by decide +kernel
theorem dX6_blank_22 : decode cX6_blank 22 = .ok (.if_icmp .ge 51, 3) := by decide +kernel
theorem dX6_blank_25 : decode cX6_blank 25 = .ok (.aload_n 0, 1) := by decide +kernel
theorem dX6_blank_26 : decode cX6_blank 26 = .ok (.getfield 7, 3) := by decide +kernel
theorem dX6_blank_29 : decode cX6_blank 29 = .ok (.bipush 34, 2) := by decide +kernel
theorem dX6_blank_31 : decode cX6_blank 31 = .ok (.iload_n 1, 1) := by decide +kernel
theorem dX6_blank_32 : decode cX6_blank 32 = .ok (.iadd, 1) := by decide +kernel
theorem dX6_blank_33 : decode cX6_blank 33 = .ok (.iaload, 1) := by decide +kernel
theorem dX6_blank_34 : decode cX6_blank 34 = .ok (.aload_n 0, 1) := by decide +kernel
theorem dX6_blank_35 : decode cX6_blank 35 = .ok (.getfield 16, 3) := by decide +kernel
theorem dX6_blank_38 : decode cX6_blank 38 = .ok (.bipush 25, 2) := by decide +kernel
theorem dX6_blank_40 : decode cX6_blank 40 = .ok (.iload_n 1, 1) := by decide +kernel
theorem dX6_blank_41 : decode cX6_blank 41 = .ok (.iadd, 1) := by decide +kernel
theorem dX6_blank_42 : decode cX6_blank 42 = .ok (.iaload, 1) := by decide +kernel
theorem dX6_blank_43 : decode cX6_blank 43 = .ok (.iconst 0, 1) := by decide +kernel
theorem dX6_blank_44 : decode cX6_blank 44 = .ok (.aload_n 0, 1) := by decide +kernel
theorem dX6_blank_45 : decode cX6_blank 45 = .ok (.getfield 16, 3) := by decide +kernel
theorem dX6_blank_48 : decode cX6_blank 48 = .ok (.bipush 32, 2) := by decide +kernel
theorem dX6_blank_50 : decode cX6_blank 50 = .ok (.iaload, 1) := by decide +kernel
theorem dX6_blank_51 : decode cX6_blank 51 = .ok (.invokestatic 56, 3) := by decide +kernel
theorem dX6_blank_54 : decode cX6_blank 54 = .ok (.ifCond .ne 5, 3) := by decide +kernel
theorem dX6_blank_57 : decode cX6_blank 57 = .ok (.iload_n 2, 1) := by decide +kernel
theorem dX6_blank_58 : decode cX6_blank 58 = .ok (.ireturn, 1) := by decide +kernel
theorem dX6_blank_59 : decode cX6_blank 59 = .ok (.aload_n 0, 1) := by decide +kernel
theorem dX6_blank_60 : decode cX6_blank 60 = .ok (.aload_n 0, 1) := by decide +kernel
theorem dX6_blank_61 : decode cX6_blank 61 = .ok (.getfield 16, 3) := by decide +kernel
theorem dX6_blank_64 : decode cX6_blank 64 = .ok (.invokevirtual 168, 3) := by decide +kernel
theorem dX6_blank_67 : decode cX6_blank 67 = .ok (.iinc 2 1, 3) := by decide +kernel
theorem dX6_blank_70 : decode cX6_blank 70 = .ok (.goto (-51), 3) := by decide +kernel
theorem dX6_blank_73 : decode cX6_blank 73 = .ok (.iconst (-1), 1) := by decide +kernel
theorem dX6_blank_74 : decode cX6_blank 74 = .ok (.ireturn, 1) := by decide +kernel
theorem dX6_place_0 : decode cX6_place 0 = .ok (.aload_n 0, 1) := by decide +kernel
theorem dX6_place_1 : decode cX6_place 1 = .ok (.iload_n 1, 1) := by decide +kernel
theorem dX6_place_2 : decode cX6_place 2 = .ok (.invokevirtual 194, 3) := by decide +kernel
theorem dX6_place_5 : decode cX6_place 5 = .ok (.ifCond .eq 33, 3) := by decide +kernel
theorem dX6_place_8 : decode cX6_place 8 = .ok (.iload_n 2, 1) := by decide +kernel
theorem dX6_place_9 : decode cX6_place 9 = .ok (.invokestatic 94, 3) := by decide +kernel
theorem dX6_place_12 : decode cX6_place 12 = .ok (.ifCond .eq 26, 3) := by decide +kernel
theorem dX6_place_15 : decode cX6_place 15 = .ok (.iload_n 3, 1) := by decide +kernel
theorem dX6_place_16 : decode cX6_place 16 = .ok (.i2l, 1) := by decide +kernel
theorem dX6_place_17 : decode cX6_place 17 = .ok (.lconst 1, 1) := by decide +kernel
theorem dX6_place_18 : decode cX6_place 18 = .ok (.ldc2_w 225, 3) := by decide +kernel
theorem dX6_place_21 : decode cX6_place 21 = .ok (.invokestatic 86, 3) := by decide +kernel
theorem dX6_place_24 : decode cX6_place 24 = .ok (.ifCond .eq 14, 3) := by decide +kernel
theorem dX6_place_27 : decode cX6_place 27 = .ok (.iload 4, 2) := by decide +kernel
theorem dX6_place_29 : decode cX6_place 29 = .ok (.i2l, 1) := by decide +kernel
theorem dX6_place_30 : decode cX6_place 30 = .ok (.lconst 0, 1) := by decide +kernel
theorem dX6_place_31 : decode cX6_place 31 = .ok (.lconst 1, 1) := by decide +kernel
theorem dX6_place_32 : decode cX6_place 32 = .ok (.invokestatic 86, 3) := by decide +kernel
theorem dX6_place_35 : decode cX6_place 35 = .ok (.ifCond .ne 8, 3) := by decide +kernel
theorem dX6_place_38 : decode cX6_place 38 = .ok (.aload_n 0, 1) := by decide +kernel
theorem dX6_place_39 : decode cX6_place 39 = .ok (.invokevirtual 100, 3) := by decide +kernel
theorem dX6_place_42 : decode cX6_place 42 = .ok (.ireturn, 1) := by decide +kernel
theorem dX6_place_43 : decode cX6_place 43 = .ok (.iconst (-1), 1) := by decide +kernel
theorem dX6_place_44 : decode cX6_place 44 = .ok (.istore 5, 2) := by decide +kernel
theorem dX6_place_46 : decode cX6_place 46 = .ok (.ldc 230, 2) := by decide +kernel
theorem dX6_place_48 : decode cX6_place 48 = .ok (.istore 6, 2) := by decide +kernel
theorem dX6_place_50 : decode cX6_place 50 = .ok (.iconst 0, 1) := by decide +kernel
theorem dX6_place_51 : decode cX6_place 51 = .ok (.istore 7, 2) := by decide +kernel
theorem dX6_place_53 : decode cX6_place 53 = .ok (.iload 7, 2) := by decide +kernel
theorem dX6_place_55 : decode cX6_place 55 = .ok (.aload_n 0, 1) := by decide +kernel
theorem dX6_place_56 : decode cX6_place 56 = .ok (.getfield 7, 3) := by decide +kernel
theorem dX6_place_59 : decode cX6_place 59 = .ok (.bipush 33, 2) := by decide +kernel
theorem dX6_place_61 : decode cX6_place 61 = .ok (.iaload, 1) := by decide +kernel
theorem dX6_place_62 : decode cX6_place 62 = .ok (.if_icmp .ge 99, 3) := by decide +kernel
theorem dX6_place_65 : decode cX6_place 65 = .ok (.aload_n 0, 1) := by decide +kernel
theorem dX6_place_66 : decode cX6_place 66 = .ok (.getfield 7, 3) := by decide +kernel
theorem dX6_place_69 : decode cX6_place 69 = .ok (.iload 7, 2) := by decide +kernel
theorem dX6_place_71 : decode cX6_place 71 = .ok (.invokestatic 162, 3) := by decide +kernel
theorem dX6_place_74 : decode cX6_place 74 = .ok (.istore 8, 2) := by decide +kernel
theorem dX6_place_76 : decode cX6_place 76 = .ok (.iload 8, 2) := by decide +kernel
theorem dX6_place_78 : decode cX6_place 78 = .ok (.iconst (-1), 1) := by decide +kernel
theorem dX6_place_79 : decode cX6_place 79 = .ok (.if_icmp .eq 9, 3) := by decide +kernel
theorem dX6_place_82 : decode cX6_place 82 = .ok (.iload 8, 2) := by decide +kernel
theorem dX6_place_84 : decode cX6_place 84 = .ok (.iload_n 1, 1) := by decide +kernel
theorem dX6_place_85 : decode cX6_place 85 = .ok (.if_icmp .ne 70, 3) := by decide +kernel
theorem dX6_place_88 : decode cX6_place 88 = .ok (.aload_n 0, 1) := by decide +kernel
theorem dX6_place_89 : decode cX6_place 89 = .ok (.invokevirtual 216, 3) := by decide +kernel
theorem dX6_place_92 : decode cX6_place 92 = .ok (.aload_n 0, 1) := by decide +kernel
theorem dX6_place_93 : decode cX6_place 93 = .ok (.getfield 16, 3) := by decide +kernel
theorem dX6_place_96 : decode cX6_place 96 = .ok (.iconst 0, 1) := by decide +kernel
theorem dX6_place_97 : decode cX6_place 97 = .ok (.iload_n 1, 1) := by decide +kernel
theorem dX6_place_98 : decode cX6_place 98 = .ok (.iadd, 1) := by decide +kernel
theorem dX6_place_99 : decode cX6_place 99 = .ok (.iload 7, 2) := by decide +kernel
theorem dX6_place_101 : decode cX6_place 101 = .ok (.iastore, 1) := by decide +kernel
theorem dX6_place_102 : decode cX6_place 102 = .ok (.aload_n 0, 1) := by decide +kernel
theorem dX6_place_103 : decode cX6_place 103 = .ok (.iload_n 1, 1) := by decide +kernel
theorem dX6_place_104 : decode cX6_place 104 = .ok (.iload_n 2, 1) := by decide +kernel
theorem dX6_place_105 : decode cX6_place 105 = .ok (.iload_n 3, 1) := by decide +kernel
theorem dX6_place_106 : decode cX6_place 106 = .ok (.invokevirtual 227, 3) := by decide +kernel
theorem dX6_place_109 : decode cX6_place 109 = .ok (.istore 9, 2) := by decide +kernel
theorem dX6_place_111 : decode cX6_place 111 = .ok (.iload 9, 2) := by decide +kernel
theorem dX6_place_113 : decode cX6_place 113 = .ok (.iconst (-1), 1) := by decide +kernel
theorem dX6_place_114 : decode cX6_place 114 = .ok (.if_icmp .eq 15, 3) := by decide +kernel
theorem dX6_place_117 : decode cX6_place 117 = .ok (.iload 9, 2) := by decide +kernel
theorem dX6_place_119 : decode cX6_place 119 = .ok (.iload 6, 2) := by decide +kernel
theorem dX6_place_121 : decode cX6_place 121 = .ok (.if_icmp .ge 8, 3) := by decide +kernel
theorem dX6_place_124 : decode cX6_place 124 = .ok (.iload 7, 2) := by decide +kernel
theorem dX6_place_126 : decode cX6_place 126 = .ok (.goto 5, 3) := by decide +kernel
theorem dX6_place_129 : decode cX6_place 129 = .ok (.iload 5, 2) := by decide +kernel
theorem dX6_place_131 : decode cX6_place 131 = .ok (.istore 5, 2) := by decide +kernel
theorem dX6_place_133 : decode cX6_place 133 = .ok (.iload 9, 2) := by decide +kernel
theorem dX6_place_135 : decode cX6_place 135 = .ok (.iconst (-1), 1) := by decide +kernel
theorem dX6_place_136 : decode cX6_place 136 = .ok (.if_icmp .eq 15, 3) := by decide +kernel
theorem dX6_place_139 : decode cX6_place 139 = .ok (.iload 9, 2) := by decide +kernel
theorem dX6_place_141 : decode cX6_place 141 = .ok (.iload 6, 2) := by decide +kernel
theorem dX6_place_143 : decode cX6_place 143 = .ok (.if_icmp .ge 8, 3) := by decide +kernel
theorem dX6_place_146 : decode cX6_place 146 = .ok (.iload 9, 2) := by decide +kernel
theorem dX6_place_148 : decode cX6_place 148 = .ok (.goto 5, 3) := by decide +kernel
theorem dX6_place_151 : decode cX6_place 151 = .ok (.iload 6, 2) := by decide +kernel
theorem dX6_place_153 : decode cX6_place 153 = .ok (.istore 6, 2) := by decide +kernel
theorem dX6_place_155 : decode cX6_place 155 = .ok (.iinc 7 1, 3) := by decide +kernel
theorem dX6_place_158 : decode cX6_place 158 = .ok (.goto (-105), 3) := by decide +kernel
theorem dX6_place_161 : decode cX6_place 161 = .ok (.iload 5, 2) := by decide +kernel
theorem dX6_place_163 : decode cX6_place 163 = .ok (.iconst (-1), 1) := by decide +kernel
theorem dX6_place_164 : decode cX6_place 164 = .ok (.if_icmp .ne 7, 3) := by decide +kernel
theorem dX6_place_167 : decode cX6_place 167 = .ok (.iconst (-1), 1) := by decide +kernel
theorem dX6_place_168 : decode cX6_place 168 = .ok (.goto 15, 3) := by decide +kernel
theorem dX6_place_171 : decode cX6_place 171 = .ok (.iload 4, 2) := by decide +kernel
theorem dX6_place_173 : decode cX6_place 173 = .ok (.ifCond .ne 8, 3) := by decide +kernel
theorem dX6_place_176 : decode cX6_place 176 = .ok (.iload 5, 2) := by decide +kernel
theorem dX6_place_178 : decode cX6_place 178 = .ok (.goto 5, 3) := by decide +kernel
theorem dX6_place_181 : decode cX6_place 181 = .ok (.iload 6, 2) := by decide +kernel
theorem dX6_place_183 : decode cX6_place 183 = .ok (.ireturn, 1) := by decide +kernel
theorem dX6_wish_0 : decode cX6_wish 0 = .ok (.aload_n 0, 1) := by decide +kernel
theorem dX6_wish_1 : decode cX6_wish 1 = .ok (.iload_n 1, 1) := by decide +kernel
theorem dX6_wish_2 : decode cX6_wish 2 = .ok (.invokevirtual 194, 3) := by decide +kernel
theorem dX6_wish_5 : decode cX6_wish 5 = .ok (.ifCond .eq 22, 3) := by decide +kernel
theorem dX6_wish_8 : decode cX6_wish 8 = .ok (.iload_n 2, 1) := by decide +kernel
theorem dX6_wish_9 : decode cX6_wish 9 = .ok (.invokestatic 94, 3) := by decide +kernel
theorem dX6_wish_12 : decode cX6_wish 12 = .ok (.ifCond .eq 15, 3) := by decide +kernel
theorem dX6_wish_15 : decode cX6_wish 15 = .ok (.iload_n 3, 1) := by decide +kernel
theorem dX6_wish_16 : decode cX6_wish 16 = .ok (.i2l, 1) := by decide +kernel
theorem dX6_wish_17 : decode cX6_wish 17 = .ok (.lconst 0, 1) := by decide +kernel
theorem dX6_wish_18 : decode cX6_wish 18 = .ok (.ldc2_w 225, 3) := by decide +kernel
theorem dX6_wish_21 : decode cX6_wish 21 = .ok (.invokestatic 86, 3) := by decide +kernel
theorem dX6_wish_24 : decode cX6_wish 24 = .ok (.ifCond .ne 8, 3) := by decide +kernel
theorem dX6_wish_27 : decode cX6_wish 27 = .ok (.aload_n 0, 1) := by decide +kernel
theorem dX6_wish_28 : decode cX6_wish 28 = .ok (.invokevirtual 100, 3) := by decide +kernel
theorem dX6_wish_31 : decode cX6_wish 31 = .ok (.ireturn, 1) := by decide +kernel
theorem dX6_wish_32 : decode cX6_wish 32 = .ok (.aload_n 0, 1) := by decide +kernel
theorem dX6_wish_33 : decode cX6_wish 33 = .ok (.getfield 7, 3) := by decide +kernel
theorem dX6_wish_36 : decode cX6_wish 36 = .ok (.bipush 59, 2) := by decide +kernel
theorem dX6_wish_38 : decode cX6_wish 38 = .ok (.iaload, 1) := by decide +kernel
theorem dX6_wish_39 : decode cX6_wish 39 = .ok (.bipush 6, 2) := by decide +kernel
theorem dX6_wish_41 : decode cX6_wish 41 = .ok (.if_icmp .ne 11, 3) := by decide +kernel
theorem dX6_wish_44 : decode cX6_wish 44 = .ok (.aload_n 0, 1) := by decide +kernel
theorem dX6_wish_45 : decode cX6_wish 45 = .ok (.iconst 2, 1) := by decide +kernel
theorem dX6_wish_46 : decode cX6_wish 46 = .ok (.bipush (-4), 2) := by decide +kernel
theorem dX6_wish_48 : decode cX6_wish 48 = .ok (.invokevirtual 52, 3) := by decide +kernel
theorem dX6_wish_51 : decode cX6_wish 51 = .ok (.ireturn, 1) := by decide +kernel
theorem dX6_wish_52 : decode cX6_wish 52 = .ok (.bipush 60, 2) := by decide +kernel
theorem dX6_wish_54 : decode cX6_wish 54 = .ok (.iconst 3, 1) := by decide +kernel
theorem dX6_wish_55 : decode cX6_wish 55 = .ok (.aload_n 0, 1) := by decide +kernel
theorem dX6_wish_56 : decode cX6_wish 56 = .ok (.getfield 7, 3) := by decide +kernel
theorem dX6_wish_59 : decode cX6_wish 59 = .ok (.bipush 59, 2) := by decide +kernel
theorem dX6_wish_61 : decode cX6_wish 61 = .ok (.iaload, 1) := by decide +kernel
theorem dX6_wish_62 : decode cX6_wish 62 = .ok (.imul, 1) := by decide +kernel
theorem dX6_wish_63 : decode cX6_wish 63 = .ok (.iadd, 1) := by decide +kernel
theorem dX6_wish_64 : decode cX6_wish 64 = .ok (.istore 4, 2) := by decide +kernel
theorem dX6_wish_66 : decode cX6_wish 66 = .ok (.aload_n 0, 1) := by decide +kernel
theorem dX6_wish_67 : decode cX6_wish 67 = .ok (.getfield 7, 3) := by decide +kernel
theorem dX6_wish_70 : decode cX6_wish 70 = .ok (.iload 4, 2) := by decide +kernel
theorem dX6_wish_72 : decode cX6_wish 72 = .ok (.iload_n 1, 1) := by decide +kernel
theorem dX6_wish_73 : decode cX6_wish 73 = .ok (.iastore, 1) := by decide +kernel
theorem dX6_wish_74 : decode cX6_wish 74 = .ok (.aload_n 0, 1) := by decide +kernel
theorem dX6_wish_75 : decode cX6_wish 75 = .ok (.getfield 7, 3) := by decide +kernel
theorem dX6_wish_78 : decode cX6_wish 78 = .ok (.iload 4, 2) := by decide +kernel
theorem dX6_wish_80 : decode cX6_wish 80 = .ok (.iconst 1, 1) := by decide +kernel
theorem dX6_wish_81 : decode cX6_wish 81 = .ok (.iadd, 1) := by decide +kernel
theorem dX6_wish_82 : decode cX6_wish 82 = .ok (.iload_n 2, 1) := by decide +kernel
theorem dX6_wish_83 : decode cX6_wish 83 = .ok (.iastore, 1) := by decide +kernel
theorem dX6_wish_84 : decode cX6_wish 84 = .ok (.aload_n 0, 1) := by decide +kernel
theorem dX6_wish_85 : decode cX6_wish 85 = .ok (.getfield 7, 3) := by decide +kernel
theorem dX6_wish_88 : decode cX6_wish 88 = .ok (.iload 4, 2) := by decide +kernel
theorem dX6_wish_90 : decode cX6_wish 90 = .ok (.iconst 2, 1) := by decide +kernel
theorem dX6_wish_91 : decode cX6_wish 91 = .ok (.iadd, 1) := by decide +kernel
theorem dX6_wish_92 : decode cX6_wish 92 = .ok (.iload_n 3, 1) := by decide +kernel
theorem dX6_wish_93 : decode cX6_wish 93 = .ok (.iastore, 1) := by decide +kernel
theorem dX6_wish_94 : decode cX6_wish 94 = .ok (.aload_n 0, 1) := by decide +kernel
theorem dX6_wish_95 : decode cX6_wish 95 = .ok (.getfield 7, 3) := by decide +kernel
theorem dX6_wish_98 : decode cX6_wish 98 = .ok (.bipush 59, 2) := by decide +kernel
theorem dX6_wish_100 : decode cX6_wish 100 = .ok (.dup2, 1) := by decide +kernel
theorem dX6_wish_101 : decode cX6_wish 101 = .ok (.iaload, 1) := by decide +kernel
theorem dX6_wish_102 : decode cX6_wish 102 = .ok (.iconst 1, 1) := by decide +kernel
theorem dX6_wish_103 : decode cX6_wish 103 = .ok (.iadd, 1) := by decide +kernel
theorem dX6_wish_104 : decode cX6_wish 104 = .ok (.iastore, 1) := by decide +kernel
theorem dX6_wish_105 : decode cX6_wish 105 = .ok (.aload_n 0, 1) := by decide +kernel
theorem dX6_wish_106 : decode cX6_wish 106 = .ok (.getfield 7, 3) := by decide +kernel
theorem dX6_wish_109 : decode cX6_wish 109 = .ok (.bipush 59, 2) := by decide +kernel
theorem dX6_wish_111 : decode cX6_wish 111 = .ok (.iaload, 1) := by decide +kernel
theorem dX6_wish_112 : decode cX6_wish 112 = .ok (.ireturn, 1) := by decide +kernel
theorem dX6_fulfilled_0 : decode cX6_fulfilled 0 = .ok (.aload_n 0, 1) := by decide +kernel
theorem dX6_fulfilled_1 : decode cX6_fulfilled 1 = .ok (.invokevirtual 216, 3) := by decide +kernel
theorem dX6_fulfilled_4 : decode cX6_fulfilled 4 = .ok (.aload_n 0, 1) := by decide +kernel
theorem dX6_fulfilled_5 : decode cX6_fulfilled 5 = .ok (.getfield 16, 3) := by decide +kernel
theorem dX6_fulfilled_8 : decode cX6_fulfilled 8 = .ok (.iconst 0, 1) := by decide +kernel
theorem dX6_fulfilled_9 : decode cX6_fulfilled 9 = .ok (.iload_n 1, 1) := by decide +kernel
theorem dX6_fulfilled_10 : decode cX6_fulfilled 10 = .ok (.iadd, 1) := by decide +kernel
theorem dX6_fulfilled_11 : decode cX6_fulfilled 11 = .ok (.iload_n 2, 1) := by decide +kernel
theorem dX6_fulfilled_12 : decode cX6_fulfilled 12 = .ok (.iastore, 1) := by decide +kernel
theorem dX6_fulfilled_13 : decode cX6_fulfilled 13 = .ok (.iconst 0, 1) := by decide +kernel
theorem dX6_fulfilled_14 : decode cX6_fulfilled 14 = .ok (.istore 4, 2) := by decide +kernel
theorem dX6_fulfilled_16 : decode cX6_fulfilled 16 = .ok (.iload 4, 2) := by decide +kernel
theorem dX6_fulfilled_18 : decode cX6_fulfilled 18 = .ok (.iload_n 3, 1) := by decide +kernel
theorem dX6_fulfilled_19 : decode cX6_fulfilled 19 = .ok (.if_icmp .ge 14, 3) := by decide +kernel
theorem dX6_fulfilled_22 : decode cX6_fulfilled 22 = .ok (.aload_n 0, 1) := by decide +kernel
theorem dX6_fulfilled_23 : decode cX6_fulfilled 23 = .ok (.iload_n 1, 1) := by decide +kernel
theorem dX6_fulfilled_24 : decode cX6_fulfilled 24 = .ok (.invokevirtual 231, 3) := by decide +kernel
theorem dX6_fulfilled_27 : decode cX6_fulfilled 27 = .ok (.iinc 4 1, 3) := by decide +kernel
theorem dX6_fulfilled_30 : decode cX6_fulfilled 30 = .ok (.goto (-14), 3) := by decide +kernel
theorem dX6_fulfilled_33 : decode cX6_fulfilled 33 = .ok (.iconst 0, 1) := by decide +kernel
theorem dX6_fulfilled_34 : decode cX6_fulfilled 34 = .ok (.istore 4, 2) := by decide +kernel
theorem dX6_fulfilled_36 : decode cX6_fulfilled 36 = .ok (.bipush 60, 2) := by decide +kernel
theorem dX6_fulfilled_38 : decode cX6_fulfilled 38 = .ok (.istore 5, 2) := by decide +kernel
theorem dX6_fulfilled_40 : decode cX6_fulfilled 40 = .ok (.iload 5, 2) := by decide +kernel
theorem dX6_fulfilled_42 : decode cX6_fulfilled 42 = .ok (.bipush 60, 2) := by decide +kernel
theorem dX6_fulfilled_44 : decode cX6_fulfilled 44 = .ok (.iconst 3, 1) := by decide +kernel
theorem dX6_fulfilled_45 : decode cX6_fulfilled 45 = .ok (.aload_n 0, 1) := by decide +kernel
theorem dX6_fulfilled_46 : decode cX6_fulfilled 46 = .ok (.getfield 7, 3) := by decide +kernel
theorem dX6_fulfilled_49 : decode cX6_fulfilled 49 = .ok (.bipush 59, 2) := by decide +kernel
theorem dX6_fulfilled_51 : decode cX6_fulfilled 51 = .ok (.iaload, 1) := by decide +kernel
theorem dX6_fulfilled_52 : decode cX6_fulfilled 52 = .ok (.imul, 1) := by decide +kernel
theorem dX6_fulfilled_53 : decode cX6_fulfilled 53 = .ok (.iadd, 1) := by decide +kernel
theorem dX6_fulfilled_54 : decode cX6_fulfilled 54 = .ok (.if_icmp .ge 62, 3) := by decide +kernel
theorem dX6_fulfilled_57 : decode cX6_fulfilled 57 = .ok (.iload 4, 2) := by decide +kernel
theorem dX6_fulfilled_59 : decode cX6_fulfilled 59 = .ok (.aload_n 0, 1) := by decide +kernel
theorem dX6_fulfilled_60 : decode cX6_fulfilled 60 = .ok (.getfield 7, 3) := by decide +kernel
theorem dX6_fulfilled_63 : decode cX6_fulfilled 63 = .ok (.iload 5, 2) := by decide +kernel
theorem dX6_fulfilled_65 : decode cX6_fulfilled 65 = .ok (.iaload, 1) := by decide +kernel
theorem dX6_fulfilled_66 : decode cX6_fulfilled 66 = .ok (.iload_n 1, 1) := by decide +kernel
theorem dX6_fulfilled_67 : decode cX6_fulfilled 67 = .ok (.if_icmp .ne 39, 3) := by decide +kernel
theorem dX6_fulfilled_70 : decode cX6_fulfilled 70 = .ok (.aload_n 0, 1) := by decide +kernel
theorem dX6_fulfilled_71 : decode cX6_fulfilled 71 = .ok (.getfield 16, 3) := by decide +kernel
theorem dX6_fulfilled_74 : decode cX6_fulfilled 74 = .ok (.iconst 5, 1) := by decide +kernel
theorem dX6_fulfilled_75 : decode cX6_fulfilled 75 = .ok (.iconst 4, 1) := by decide +kernel
theorem dX6_fulfilled_76 : decode cX6_fulfilled 76 = .ok (.iload_n 1, 1) := by decide +kernel
theorem dX6_fulfilled_77 : decode cX6_fulfilled 77 = .ok (.imul, 1) := by decide +kernel
theorem dX6_fulfilled_78 : decode cX6_fulfilled 78 = .ok (.iadd, 1) := by decide +kernel
theorem dX6_fulfilled_79 : decode cX6_fulfilled 79 = .ok (.aload_n 0, 1) := by decide +kernel
theorem dX6_fulfilled_80 : decode cX6_fulfilled 80 = .ok (.getfield 7, 3) := by decide +kernel
theorem dX6_fulfilled_83 : decode cX6_fulfilled 83 = .ok (.iload 5, 2) := by decide +kernel
theorem dX6_fulfilled_85 : decode cX6_fulfilled 85 = .ok (.iconst 1, 1) := by decide +kernel
theorem dX6_fulfilled_86 : decode cX6_fulfilled 86 = .ok (.iadd, 1) := by decide +kernel
theorem dX6_fulfilled_87 : decode cX6_fulfilled 87 = .ok (.iaload, 1) := by decide +kernel
theorem dX6_fulfilled_88 : decode cX6_fulfilled 88 = .ok (.iadd, 1) := by decide +kernel
theorem dX6_fulfilled_89 : decode cX6_fulfilled 89 = .ok (.iaload, 1) := by decide +kernel
theorem dX6_fulfilled_90 : decode cX6_fulfilled 90 = .ok (.aload_n 0, 1) := by decide +kernel
theorem dX6_fulfilled_91 : decode cX6_fulfilled 91 = .ok (.getfield 7, 3) := by decide +kernel
theorem dX6_fulfilled_94 : decode cX6_fulfilled 94 = .ok (.iload 5, 2) := by decide +kernel
theorem dX6_fulfilled_96 : decode cX6_fulfilled 96 = .ok (.iconst 2, 1) := by decide +kernel
theorem dX6_fulfilled_97 : decode cX6_fulfilled 97 = .ok (.iadd, 1) := by decide +kernel
theorem dX6_fulfilled_98 : decode cX6_fulfilled 98 = .ok (.iaload, 1) := by decide +kernel
theorem dX6_fulfilled_99 : decode cX6_fulfilled 99 = .ok (.if_icmp .lt 7, 3) := by decide +kernel
theorem dX6_fulfilled_102 : decode cX6_fulfilled 102 = .ok (.iconst 1, 1) := by decide +kernel
theorem dX6_fulfilled_103 : decode cX6_fulfilled 103 = .ok (.goto 4, 3) := by decide +kernel
theorem dX6_fulfilled_106 : decode cX6_fulfilled 106 = .ok (.iconst 0, 1) := by decide +kernel
theorem dX6_fulfilled_107 : decode cX6_fulfilled 107 = .ok (.iadd, 1) := by decide +kernel
theorem dX6_fulfilled_108 : decode cX6_fulfilled 108 = .ok (.istore 4, 2) := by decide +kernel
theorem dX6_fulfilled_110 : decode cX6_fulfilled 110 = .ok (.iinc 5 3, 3) := by decide +kernel
theorem dX6_fulfilled_113 : decode cX6_fulfilled 113 = .ok (.goto (-73), 3) := by decide +kernel
theorem dX6_fulfilled_116 : decode cX6_fulfilled 116 = .ok (.iload 4, 2) := by decide +kernel
theorem dX6_fulfilled_118 : decode cX6_fulfilled 118 = .ok (.ireturn, 1) := by decide +kernel
theorem dX6_aloneGoes_0 : decode cX6_aloneGoes 0 = .ok (.aload_n 0, 1) := by decide +kernel
theorem dX6_aloneGoes_1 : decode cX6_aloneGoes 1 = .ok (.getfield 16, 3) := by decide +kernel
theorem dX6_aloneGoes_4 : decode cX6_aloneGoes 4 = .ok (.iconst 0, 1) := by decide +kernel
theorem dX6_aloneGoes_5 : decode cX6_aloneGoes 5 = .ok (.iload_n 1, 1) := by decide +kernel
theorem dX6_aloneGoes_6 : decode cX6_aloneGoes 6 = .ok (.iadd, 1) := by decide +kernel
theorem dX6_aloneGoes_7 : decode cX6_aloneGoes 7 = .ok (.iaload, 1) := by decide +kernel
theorem dX6_aloneGoes_8 : decode cX6_aloneGoes 8 = .ok (.istore_n 2, 1) := by decide +kernel
theorem dX6_aloneGoes_9 : decode cX6_aloneGoes 9 = .ok (.aload_n 0, 1) := by decide +kernel
theorem dX6_aloneGoes_10 : decode cX6_aloneGoes 10 = .ok (.aload_n 0, 1) := by decide +kernel
theorem dX6_aloneGoes_11 : decode cX6_aloneGoes 11 = .ok (.getfield 16, 3) := by decide +kernel
theorem dX6_aloneGoes_14 : decode cX6_aloneGoes 14 = .ok (.iload_n 1, 1) := by decide +kernel
theorem dX6_aloneGoes_15 : decode cX6_aloneGoes 15 = .ok (.invokevirtual 68, 3) := by decide +kernel
theorem dX6_aloneGoes_18 : decode cX6_aloneGoes 18 = .ok (.iload_n 2, 1) := by decide +kernel
theorem dX6_aloneGoes_19 : decode cX6_aloneGoes 19 = .ok (.iconst (-1), 1) := by decide +kernel
theorem dX6_aloneGoes_20 : decode cX6_aloneGoes 20 = .ok (.if_icmp .eq 65, 3) := by decide +kernel
theorem dX6_aloneGoes_23 : decode cX6_aloneGoes 23 = .ok (.aload_n 0, 1) := by decide +kernel
theorem dX6_aloneGoes_24 : decode cX6_aloneGoes 24 = .ok (.getfield 16, 3) := by decide +kernel
theorem dX6_aloneGoes_27 : decode cX6_aloneGoes 27 = .ok (.bipush 25, 2) := by decide +kernel
theorem dX6_aloneGoes_29 : decode cX6_aloneGoes 29 = .ok (.iload_n 2, 1) := by decide +kernel
theorem dX6_aloneGoes_30 : decode cX6_aloneGoes 30 = .ok (.iadd, 1) := by decide +kernel
theorem dX6_aloneGoes_31 : decode cX6_aloneGoes 31 = .ok (.iaload, 1) := by decide +kernel
theorem dX6_aloneGoes_32 : decode cX6_aloneGoes 32 = .ok (.aload_n 0, 1) := by decide +kernel
theorem dX6_aloneGoes_33 : decode cX6_aloneGoes 33 = .ok (.getfield 7, 3) := by decide +kernel
theorem dX6_aloneGoes_36 : decode cX6_aloneGoes 36 = .ok (.bipush 34, 2) := by decide +kernel
theorem dX6_aloneGoes_38 : decode cX6_aloneGoes 38 = .ok (.iload_n 2, 1) := by decide +kernel
theorem dX6_aloneGoes_39 : decode cX6_aloneGoes 39 = .ok (.iadd, 1) := by decide +kernel
theorem dX6_aloneGoes_40 : decode cX6_aloneGoes 40 = .ok (.iaload, 1) := by decide +kernel
theorem dX6_aloneGoes_41 : decode cX6_aloneGoes 41 = .ok (.aload_n 0, 1) := by decide +kernel
theorem dX6_aloneGoes_42 : decode cX6_aloneGoes 42 = .ok (.getfield 7, 3) := by decide +kernel
theorem dX6_aloneGoes_45 : decode cX6_aloneGoes 45 = .ok (.bipush 49, 2) := by decide +kernel
theorem dX6_aloneGoes_47 : decode cX6_aloneGoes 47 = .ok (.iload_n 1, 1) := by decide +kernel
theorem dX6_aloneGoes_48 : decode cX6_aloneGoes 48 = .ok (.iadd, 1) := by decide +kernel
theorem dX6_aloneGoes_49 : decode cX6_aloneGoes 49 = .ok (.iaload, 1) := by decide +kernel
theorem dX6_aloneGoes_50 : decode cX6_aloneGoes 50 = .ok (.aload_n 0, 1) := by decide +kernel
theorem dX6_aloneGoes_51 : decode cX6_aloneGoes 51 = .ok (.getfield 7, 3) := by decide +kernel
theorem dX6_aloneGoes_54 : decode cX6_aloneGoes 54 = .ok (.bipush 54, 2) := by decide +kernel
theorem dX6_aloneGoes_56 : decode cX6_aloneGoes 56 = .ok (.iload_n 1, 1) := by decide +kernel
theorem dX6_aloneGoes_57 : decode cX6_aloneGoes 57 = .ok (.iadd, 1) := by decide +kernel
theorem dX6_aloneGoes_58 : decode cX6_aloneGoes 58 = .ok (.iaload, 1) := by decide +kernel
theorem dX6_aloneGoes_59 : decode cX6_aloneGoes 59 = .ok (.invokestatic 72, 3) := by decide +kernel
theorem dX6_aloneGoes_62 : decode cX6_aloneGoes 62 = .ok (.invokestatic 75, 3) := by decide +kernel
theorem dX6_aloneGoes_65 : decode cX6_aloneGoes 65 = .ok (.isub, 1) := by decide +kernel
theorem dX6_aloneGoes_66 : decode cX6_aloneGoes 66 = .ok (.istore_n 3, 1) := by decide +kernel
theorem dX6_aloneGoes_67 : decode cX6_aloneGoes 67 = .ok (.aload_n 0, 1) := by decide +kernel
theorem dX6_aloneGoes_68 : decode cX6_aloneGoes 68 = .ok (.getfield 16, 3) := by decide +kernel
theorem dX6_aloneGoes_71 : decode cX6_aloneGoes 71 = .ok (.bipush 25, 2) := by decide +kernel
theorem dX6_aloneGoes_73 : decode cX6_aloneGoes 73 = .ok (.iload_n 2, 1) := by decide +kernel
theorem dX6_aloneGoes_74 : decode cX6_aloneGoes 74 = .ok (.iadd, 1) := by decide +kernel
theorem dX6_aloneGoes_75 : decode cX6_aloneGoes 75 = .ok (.iload_n 3, 1) := by decide +kernel
theorem dX6_aloneGoes_76 : decode cX6_aloneGoes 76 = .ok (.ifCond .ge 7, 3) := by decide +kernel
theorem dX6_aloneGoes_79 : decode cX6_aloneGoes 79 = .ok (.iconst 0, 1) := by decide +kernel
theorem dX6_aloneGoes_80 : decode cX6_aloneGoes 80 = .ok (.goto 4, 3) := by decide +kernel
theorem dX6_aloneGoes_83 : decode cX6_aloneGoes 83 = .ok (.iload_n 3, 1) := by decide +kernel
theorem dX6_aloneGoes_84 : decode cX6_aloneGoes 84 = .ok (.iastore, 1) := by decide +kernel
theorem dX6_aloneGoes_85 : decode cX6_aloneGoes 85 = .ok (.aload_n 0, 1) := by decide +kernel
theorem dX6_aloneGoes_86 : decode cX6_aloneGoes 86 = .ok (.getfield 16, 3) := by decide +kernel
theorem dX6_aloneGoes_89 : decode cX6_aloneGoes 89 = .ok (.bipush 32, 2) := by decide +kernel
theorem dX6_aloneGoes_91 : decode cX6_aloneGoes 91 = .ok (.dup2, 1) := by decide +kernel
theorem dX6_aloneGoes_92 : decode cX6_aloneGoes 92 = .ok (.iaload, 1) := by decide +kernel
theorem dX6_aloneGoes_93 : decode cX6_aloneGoes 93 = .ok (.iconst 1, 1) := by decide +kernel
theorem dX6_aloneGoes_94 : decode cX6_aloneGoes 94 = .ok (.iadd, 1) := by decide +kernel
theorem dX6_aloneGoes_95 : decode cX6_aloneGoes 95 = .ok (.iastore, 1) := by decide +kernel
theorem dX6_aloneGoes_96 : decode cX6_aloneGoes 96 = .ok (.return_, 1) := by decide +kernel
theorem dX6_nextRow_0 : decode cX6_nextRow 0 = .ok (.aload_n 0, 1) := by decide +kernel
theorem dX6_nextRow_1 : decode cX6_nextRow 1 = .ok (.getfield 7, 3) := by decide +kernel
theorem dX6_nextRow_4 : decode cX6_nextRow 4 = .ok (.bipush 48, 2) := by decide +kernel
theorem dX6_nextRow_6 : decode cX6_nextRow 6 = .ok (.iaload, 1) := by decide +kernel
theorem dX6_nextRow_7 : decode cX6_nextRow 7 = .ok (.iconst 1, 1) := by decide +kernel
theorem dX6_nextRow_8 : decode cX6_nextRow 8 = .ok (.isub, 1) := by decide +kernel
theorem dX6_nextRow_9 : decode cX6_nextRow 9 = .ok (.istore_n 1, 1) := by decide +kernel
theorem dX6_nextRow_10 : decode cX6_nextRow 10 = .ok (.iload_n 1, 1) := by decide +kernel
theorem dX6_nextRow_11 : decode cX6_nextRow 11 = .ok (.ifCond .lt 102, 3) := by decide +kernel
theorem dX6_nextRow_14 : decode cX6_nextRow 14 = .ok (.aload_n 0, 1) := by decide +kernel
theorem dX6_nextRow_15 : decode cX6_nextRow 15 = .ok (.getfield 39, 3) := by decide +kernel
theorem dX6_nextRow_18 : decode cX6_nextRow 18 = .ok (.iload_n 1, 1) := by decide +kernel
theorem dX6_nextRow_19 : decode cX6_nextRow 19 = .ok (.dup2, 1) := by decide +kernel
theorem dX6_nextRow_20 : decode cX6_nextRow 20 = .ok (.iaload, 1) := by decide +kernel
theorem dX6_nextRow_21 : decode cX6_nextRow 21 = .ok (.iconst 1, 1) := by decide +kernel
theorem dX6_nextRow_22 : decode cX6_nextRow 22 = .ok (.iadd, 1) := by decide +kernel
theorem dX6_nextRow_23 : decode cX6_nextRow 23 = .ok (.iastore, 1) := by decide +kernel
theorem dX6_nextRow_24 : decode cX6_nextRow 24 = .ok (.aload_n 0, 1) := by decide +kernel
theorem dX6_nextRow_25 : decode cX6_nextRow 25 = .ok (.getfield 39, 3) := by decide +kernel
theorem dX6_nextRow_28 : decode cX6_nextRow 28 = .ok (.iload_n 1, 1) := by decide +kernel
theorem dX6_nextRow_29 : decode cX6_nextRow 29 = .ok (.iaload, 1) := by decide +kernel
theorem dX6_nextRow_30 : decode cX6_nextRow 30 = .ok (.aload_n 0, 1) := by decide +kernel
theorem dX6_nextRow_31 : decode cX6_nextRow 31 = .ok (.getfield 7, 3) := by decide +kernel
theorem dX6_nextRow_34 : decode cX6_nextRow 34 = .ok (.bipush 33, 2) := by decide +kernel
theorem dX6_nextRow_36 : decode cX6_nextRow 36 = .ok (.iaload, 1) := by decide +kernel
theorem dX6_nextRow_37 : decode cX6_nextRow 37 = .ok (.if_icmp .ge 24, 3) := by decide +kernel
theorem dX6_nextRow_40 : decode cX6_nextRow 40 = .ok (.aload_n 0, 1) := by decide +kernel
theorem dX6_nextRow_41 : decode cX6_nextRow 41 = .ok (.iload_n 1, 1) := by decide +kernel
theorem dX6_nextRow_42 : decode cX6_nextRow 42 = .ok (.invokevirtual 234, 3) := by decide +kernel
theorem dX6_nextRow_45 : decode cX6_nextRow 45 = .ok (.ifCond .eq 16, 3) := by decide +kernel
theorem dX6_nextRow_48 : decode cX6_nextRow 48 = .ok (.aload_n 0, 1) := by decide +kernel
theorem dX6_nextRow_49 : decode cX6_nextRow 49 = .ok (.getfield 39, 3) := by decide +kernel
theorem dX6_nextRow_52 : decode cX6_nextRow 52 = .ok (.iload_n 1, 1) := by decide +kernel
theorem dX6_nextRow_53 : decode cX6_nextRow 53 = .ok (.dup2, 1) := by decide +kernel
theorem dX6_nextRow_54 : decode cX6_nextRow 54 = .ok (.iaload, 1) := by decide +kernel
theorem dX6_nextRow_55 : decode cX6_nextRow 55 = .ok (.iconst 1, 1) := by decide +kernel
theorem dX6_nextRow_56 : decode cX6_nextRow 56 = .ok (.iadd, 1) := by decide +kernel
theorem dX6_nextRow_57 : decode cX6_nextRow 57 = .ok (.iastore, 1) := by decide +kernel
theorem dX6_nextRow_58 : decode cX6_nextRow 58 = .ok (.goto (-34), 3) := by decide +kernel
theorem dX6_nextRow_61 : decode cX6_nextRow 61 = .ok (.aload_n 0, 1) := by decide +kernel
theorem dX6_nextRow_62 : decode cX6_nextRow 62 = .ok (.getfield 39, 3) := by decide +kernel
theorem dX6_nextRow_65 : decode cX6_nextRow 65 = .ok (.iload_n 1, 1) := by decide +kernel
theorem dX6_nextRow_66 : decode cX6_nextRow 66 = .ok (.iaload, 1) := by decide +kernel
theorem dX6_nextRow_67 : decode cX6_nextRow 67 = .ok (.aload_n 0, 1) := by decide +kernel
theorem dX6_nextRow_68 : decode cX6_nextRow 68 = .ok (.getfield 7, 3) := by decide +kernel
theorem dX6_nextRow_71 : decode cX6_nextRow 71 = .ok (.bipush 33, 2) := by decide +kernel
theorem dX6_nextRow_73 : decode cX6_nextRow 73 = .ok (.iaload, 1) := by decide +kernel
theorem dX6_nextRow_74 : decode cX6_nextRow 74 = .ok (.if_icmp .ge 33, 3) := by decide +kernel
theorem dX6_nextRow_77 : decode cX6_nextRow 77 = .ok (.iload_n 1, 1) := by decide +kernel
theorem dX6_nextRow_78 : decode cX6_nextRow 78 = .ok (.iconst 1, 1) := by decide +kernel
theorem dX6_nextRow_79 : decode cX6_nextRow 79 = .ok (.iadd, 1) := by decide +kernel
theorem dX6_nextRow_80 : decode cX6_nextRow 80 = .ok (.istore_n 2, 1) := by decide +kernel
theorem dX6_nextRow_81 : decode cX6_nextRow 81 = .ok (.iload_n 2, 1) := by decide +kernel
theorem dX6_nextRow_82 : decode cX6_nextRow 82 = .ok (.aload_n 0, 1) := by decide +kernel
theorem dX6_nextRow_83 : decode cX6_nextRow 83 = .ok (.getfield 7, 3) := by decide +kernel
theorem dX6_nextRow_86 : decode cX6_nextRow 86 = .ok (.bipush 48, 2) := by decide +kernel
theorem dX6_nextRow_88 : decode cX6_nextRow 88 = .ok (.iaload, 1) := by decide +kernel
theorem dX6_nextRow_89 : decode cX6_nextRow 89 = .ok (.if_icmp .ge 16, 3) := by decide +kernel
theorem dX6_nextRow_92 : decode cX6_nextRow 92 = .ok (.aload_n 0, 1) := by decide +kernel
theorem dX6_nextRow_93 : decode cX6_nextRow 93 = .ok (.getfield 39, 3) := by decide +kernel
theorem dX6_nextRow_96 : decode cX6_nextRow 96 = .ok (.iload_n 2, 1) := by decide +kernel
theorem dX6_nextRow_97 : decode cX6_nextRow 97 = .ok (.iconst (-1), 1) := by decide +kernel
theorem dX6_nextRow_98 : decode cX6_nextRow 98 = .ok (.iastore, 1) := by decide +kernel
theorem dX6_nextRow_99 : decode cX6_nextRow 99 = .ok (.iinc 2 1, 3) := by decide +kernel
theorem dX6_nextRow_102 : decode cX6_nextRow 102 = .ok (.goto (-21), 3) := by decide +kernel
theorem dX6_nextRow_105 : decode cX6_nextRow 105 = .ok (.iconst 1, 1) := by decide +kernel
theorem dX6_nextRow_106 : decode cX6_nextRow 106 = .ok (.ireturn, 1) := by decide +kernel
theorem dX6_nextRow_107 : decode cX6_nextRow 107 = .ok (.iinc 1 (-1), 3) := by decide +kernel
theorem dX6_nextRow_110 : decode cX6_nextRow 110 = .ok (.goto (-100), 3) := by decide +kernel
theorem dX6_nextRow_113 : decode cX6_nextRow 113 = .ok (.iconst 0, 1) := by decide +kernel
theorem dX6_nextRow_114 : decode cX6_nextRow 114 = .ok (.ireturn, 1) := by decide +kernel
theorem dX6_isBefore_0 : decode cX6_isBefore 0 = .ok (.iconst 0, 1) := by decide +kernel
theorem dX6_isBefore_1 : decode cX6_isBefore 1 = .ok (.istore_n 2, 1) := by decide +kernel
theorem dX6_isBefore_2 : decode cX6_isBefore 2 = .ok (.iconst 0, 1) := by decide +kernel
theorem dX6_isBefore_3 : decode cX6_isBefore 3 = .ok (.istore_n 3, 1) := by decide +kernel
theorem dX6_isBefore_4 : decode cX6_isBefore 4 = .ok (.iload_n 3, 1) := by decide +kernel
theorem dX6_isBefore_5 : decode cX6_isBefore 5 = .ok (.iload_n 1, 1) := by decide +kernel
theorem dX6_isBefore_6 : decode cX6_isBefore 6 = .ok (.if_icmp .ge 34, 3) := by decide +kernel
theorem dX6_isBefore_9 : decode cX6_isBefore 9 = .ok (.iload_n 2, 1) := by decide +kernel
theorem dX6_isBefore_10 : decode cX6_isBefore 10 = .ok (.ifCond .ne 18, 3) := by decide +kernel
theorem dX6_isBefore_13 : decode cX6_isBefore 13 = .ok (.aload_n 0, 1) := by decide +kernel
theorem dX6_isBefore_14 : decode cX6_isBefore 14 = .ok (.getfield 39, 3) := by decide +kernel
theorem dX6_isBefore_17 : decode cX6_isBefore 17 = .ok (.iload_n 3, 1) := by decide +kernel
theorem dX6_isBefore_18 : decode cX6_isBefore 18 = .ok (.iaload, 1) := by decide +kernel
theorem dX6_isBefore_19 : decode cX6_isBefore 19 = .ok (.aload_n 0, 1) := by decide +kernel
theorem dX6_isBefore_20 : decode cX6_isBefore 20 = .ok (.getfield 39, 3) := by decide +kernel
theorem dX6_isBefore_23 : decode cX6_isBefore 23 = .ok (.iload_n 1, 1) := by decide +kernel
theorem dX6_isBefore_24 : decode cX6_isBefore 24 = .ok (.iaload, 1) := by decide +kernel
theorem dX6_isBefore_25 : decode cX6_isBefore 25 = .ok (.if_icmp .ne 7, 3) := by decide +kernel
theorem dX6_isBefore_28 : decode cX6_isBefore 28 = .ok (.iconst 1, 1) := by decide +kernel
theorem dX6_isBefore_29 : decode cX6_isBefore 29 = .ok (.goto 4, 3) := by decide +kernel
theorem dX6_isBefore_32 : decode cX6_isBefore 32 = .ok (.iconst 0, 1) := by decide +kernel
theorem dX6_isBefore_33 : decode cX6_isBefore 33 = .ok (.istore_n 2, 1) := by decide +kernel
theorem dX6_isBefore_34 : decode cX6_isBefore 34 = .ok (.iinc 3 1, 3) := by decide +kernel
theorem dX6_isBefore_37 : decode cX6_isBefore 37 = .ok (.goto (-33), 3) := by decide +kernel
theorem dX6_isBefore_40 : decode cX6_isBefore 40 = .ok (.iload_n 2, 1) := by decide +kernel
theorem dX6_isBefore_41 : decode cX6_isBefore 41 = .ok (.ireturn, 1) := by decide +kernel
theorem dX6_laysSeating_0 : decode cX6_laysSeating 0 = .ok (.iconst 0, 1) := by decide +kernel
theorem dX6_laysSeating_1 : decode cX6_laysSeating 1 = .ok (.istore_n 2, 1) := by decide +kernel
theorem dX6_laysSeating_2 : decode cX6_laysSeating 2 = .ok (.iload_n 2, 1) := by decide +kernel
theorem dX6_laysSeating_3 : decode cX6_laysSeating 3 = .ok (.aload_n 0, 1) := by decide +kernel
theorem dX6_laysSeating_4 : decode cX6_laysSeating 4 = .ok (.getfield 7, 3) := by decide +kernel
theorem dX6_laysSeating_7 : decode cX6_laysSeating 7 = .ok (.bipush 48, 2) := by decide +kernel
theorem dX6_laysSeating_9 : decode cX6_laysSeating 9 = .ok (.iaload, 1) := by decide +kernel
theorem dX6_laysSeating_10 : decode cX6_laysSeating 10 = .ok (.if_icmp .ge 55, 3) := by decide +kernel
theorem dX6_laysSeating_13 : decode cX6_laysSeating 13 = .ok (.aload_n 0, 1) := by decide +kernel
theorem dX6_laysSeating_14 : decode cX6_laysSeating 14 = .ok (.getfield 39, 3) := by decide +kernel
theorem dX6_laysSeating_17 : decode cX6_laysSeating 17 = .ok (.iload_n 2, 1) := by decide +kernel
theorem dX6_laysSeating_18 : decode cX6_laysSeating 18 = .ok (.iconst (-1), 1) := by decide +kernel
theorem dX6_laysSeating_19 : decode cX6_laysSeating 19 = .ok (.iastore, 1) := by decide +kernel
theorem dX6_laysSeating_20 : decode cX6_laysSeating 20 = .ok (.iconst (-1), 1) := by decide +kernel
theorem dX6_laysSeating_21 : decode cX6_laysSeating 21 = .ok (.istore_n 3, 1) := by decide +kernel
theorem dX6_laysSeating_22 : decode cX6_laysSeating 22 = .ok (.iload_n 3, 1) := by decide +kernel
theorem dX6_laysSeating_23 : decode cX6_laysSeating 23 = .ok (.aload_n 0, 1) := by decide +kernel
theorem dX6_laysSeating_24 : decode cX6_laysSeating 24 = .ok (.getfield 7, 3) := by decide +kernel
theorem dX6_laysSeating_27 : decode cX6_laysSeating 27 = .ok (.bipush 33, 2) := by decide +kernel
theorem dX6_laysSeating_29 : decode cX6_laysSeating 29 = .ok (.iaload, 1) := by decide +kernel
theorem dX6_laysSeating_30 : decode cX6_laysSeating 30 = .ok (.if_icmp .ge 29, 3) := by decide +kernel
theorem dX6_laysSeating_33 : decode cX6_laysSeating 33 = .ok (.aload_n 0, 1) := by decide +kernel
theorem dX6_laysSeating_34 : decode cX6_laysSeating 34 = .ok (.getfield 36, 3) := by decide +kernel
theorem dX6_laysSeating_37 : decode cX6_laysSeating 37 = .ok (.bipush 8, 2) := by decide +kernel
theorem dX6_laysSeating_39 : decode cX6_laysSeating 39 = .ok (.iload_n 2, 1) := by decide +kernel
theorem dX6_laysSeating_40 : decode cX6_laysSeating 40 = .ok (.imul, 1) := by decide +kernel
theorem dX6_laysSeating_41 : decode cX6_laysSeating 41 = .ok (.iload_n 3, 1) := by decide +kernel
theorem dX6_laysSeating_42 : decode cX6_laysSeating 42 = .ok (.iadd, 1) := by decide +kernel
theorem dX6_laysSeating_43 : decode cX6_laysSeating 43 = .ok (.iconst 1, 1) := by decide +kernel
theorem dX6_laysSeating_44 : decode cX6_laysSeating 44 = .ok (.iadd, 1) := by decide +kernel
theorem dX6_laysSeating_45 : decode cX6_laysSeating 45 = .ok (.aload_n 0, 1) := by decide +kernel
theorem dX6_laysSeating_46 : decode cX6_laysSeating 46 = .ok (.iload_n 2, 1) := by decide +kernel
theorem dX6_laysSeating_47 : decode cX6_laysSeating 47 = .ok (.iload_n 3, 1) := by decide +kernel
theorem dX6_laysSeating_48 : decode cX6_laysSeating 48 = .ok (.iload_n 1, 1) := by decide +kernel
theorem dX6_laysSeating_49 : decode cX6_laysSeating 49 = .ok (.invokevirtual 237, 3) := by decide +kernel
theorem dX6_laysSeating_52 : decode cX6_laysSeating 52 = .ok (.iastore, 1) := by decide +kernel
theorem dX6_laysSeating_53 : decode cX6_laysSeating 53 = .ok (.iinc 3 1, 3) := by decide +kernel
theorem dX6_laysSeating_56 : decode cX6_laysSeating 56 = .ok (.goto (-34), 3) := by decide +kernel
theorem dX6_laysSeating_59 : decode cX6_laysSeating 59 = .ok (.iinc 2 1, 3) := by decide +kernel
theorem dX6_laysSeating_62 : decode cX6_laysSeating 62 = .ok (.goto (-60), 3) := by decide +kernel
theorem dX6_laysSeating_65 : decode cX6_laysSeating 65 = .ok (.iconst (-1), 1) := by decide +kernel
theorem dX6_laysSeating_66 : decode cX6_laysSeating 66 = .ok (.istore_n 2, 1) := by decide +kernel
theorem dX6_laysSeating_67 : decode cX6_laysSeating 67 = .ok (.iconst 1, 1) := by decide +kernel
theorem dX6_laysSeating_68 : decode cX6_laysSeating 68 = .ok (.istore_n 3, 1) := by decide +kernel
theorem dX6_laysSeating_69 : decode cX6_laysSeating 69 = .ok (.iload_n 3, 1) := by decide +kernel
theorem dX6_laysSeating_70 : decode cX6_laysSeating 70 = .ok (.ifCond .eq 89, 3) := by decide +kernel
theorem dX6_laysSeating_73 : decode cX6_laysSeating 73 = .ok (.iconst 0, 1) := by decide +kernel
theorem dX6_laysSeating_74 : decode cX6_laysSeating 74 = .ok (.istore 4, 2) := by decide +kernel
theorem dX6_laysSeating_76 : decode cX6_laysSeating 76 = .ok (.iconst 0, 1) := by decide +kernel
theorem dX6_laysSeating_77 : decode cX6_laysSeating 77 = .ok (.istore 5, 2) := by decide +kernel
theorem dX6_laysSeating_79 : decode cX6_laysSeating 79 = .ok (.iload 5, 2) := by decide +kernel
theorem dX6_laysSeating_81 : decode cX6_laysSeating 81 = .ok (.aload_n 0, 1) := by decide +kernel
theorem dX6_laysSeating_82 : decode cX6_laysSeating 82 = .ok (.getfield 7, 3) := by decide +kernel
theorem dX6_laysSeating_85 : decode cX6_laysSeating 85 = .ok (.bipush 48, 2) := by decide +kernel
theorem dX6_laysSeating_87 : decode cX6_laysSeating 87 = .ok (.iaload, 1) := by decide +kernel
theorem dX6_laysSeating_88 : decode cX6_laysSeating 88 = .ok (.if_icmp .ge 34, 3) := by decide +kernel
theorem dX6_laysSeating_91 : decode cX6_laysSeating 91 = .ok (.iload 4, 2) := by decide +kernel
theorem dX6_laysSeating_93 : decode cX6_laysSeating 93 = .ok (.aload_n 0, 1) := by decide +kernel
theorem dX6_laysSeating_94 : decode cX6_laysSeating 94 = .ok (.getfield 36, 3) := by decide +kernel
theorem dX6_laysSeating_97 : decode cX6_laysSeating 97 = .ok (.bipush 8, 2) := by decide +kernel
theorem dX6_laysSeating_99 : decode cX6_laysSeating 99 = .ok (.iload 5, 2) := by decide +kernel
theorem dX6_laysSeating_101 : decode cX6_laysSeating 101 = .ok (.imul, 1) := by decide +kernel
theorem dX6_laysSeating_102 : decode cX6_laysSeating 102 = .ok (.aload_n 0, 1) := by decide +kernel
theorem dX6_laysSeating_103 : decode cX6_laysSeating 103 = .ok (.getfield 39, 3) := by decide +kernel
theorem dX6_laysSeating_106 : decode cX6_laysSeating 106 = .ok (.iload 5, 2) := by decide +kernel
theorem dX6_laysSeating_108 : decode cX6_laysSeating 108 = .ok (.iaload, 1) := by decide +kernel
theorem dX6_laysSeating_109 : decode cX6_laysSeating 109 = .ok (.iadd, 1) := by decide +kernel
theorem dX6_laysSeating_110 : decode cX6_laysSeating 110 = .ok (.iconst 1, 1) := by decide +kernel
theorem dX6_laysSeating_111 : decode cX6_laysSeating 111 = .ok (.iadd, 1) := by decide +kernel
theorem dX6_laysSeating_112 : decode cX6_laysSeating 112 = .ok (.iaload, 1) := by decide +kernel
theorem dX6_laysSeating_113 : decode cX6_laysSeating 113 = .ok (.iadd, 1) := by decide +kernel
theorem dX6_laysSeating_114 : decode cX6_laysSeating 114 = .ok (.istore 4, 2) := by decide +kernel
theorem dX6_laysSeating_116 : decode cX6_laysSeating 116 = .ok (.iinc 5 1, 3) := by decide +kernel
theorem dX6_laysSeating_119 : decode cX6_laysSeating 119 = .ok (.goto (-40), 3) := by decide +kernel
theorem dX6_laysSeating_122 : decode cX6_laysSeating 122 = .ok (.iload 4, 2) := by decide +kernel
theorem dX6_laysSeating_124 : decode cX6_laysSeating 124 = .ok (.iload_n 2, 1) := by decide +kernel
theorem dX6_laysSeating_125 : decode cX6_laysSeating 125 = .ok (.if_icmp .le 26, 3) := by decide +kernel
theorem dX6_laysSeating_128 : decode cX6_laysSeating 128 = .ok (.iload 4, 2) := by decide +kernel
theorem dX6_laysSeating_130 : decode cX6_laysSeating 130 = .ok (.istore_n 2, 1) := by decide +kernel
theorem dX6_laysSeating_131 : decode cX6_laysSeating 131 = .ok (.aload_n 0, 1) := by decide +kernel
theorem dX6_laysSeating_132 : decode cX6_laysSeating 132 = .ok (.getfield 39, 3) := by decide +kernel
theorem dX6_laysSeating_135 : decode cX6_laysSeating 135 = .ok (.iconst 0, 1) := by decide +kernel
theorem dX6_laysSeating_136 : decode cX6_laysSeating 136 = .ok (.aload_n 0, 1) := by decide +kernel
theorem dX6_laysSeating_137 : decode cX6_laysSeating 137 = .ok (.getfield 42, 3) := by decide +kernel
theorem dX6_laysSeating_140 : decode cX6_laysSeating 140 = .ok (.iconst 0, 1) := by decide +kernel
theorem dX6_laysSeating_141 : decode cX6_laysSeating 141 = .ok (.aload_n 0, 1) := by decide +kernel
theorem dX6_laysSeating_142 : decode cX6_laysSeating 142 = .ok (.getfield 7, 3) := by decide +kernel
theorem dX6_laysSeating_145 : decode cX6_laysSeating 145 = .ok (.bipush 48, 2) := by decide +kernel
theorem dX6_laysSeating_147 : decode cX6_laysSeating 147 = .ok (.iaload, 1) := by decide +kernel
theorem dX6_laysSeating_148 : decode cX6_laysSeating 148 = .ok (.invokestatic 82, 3) := by decide +kernel
theorem dX6_laysSeating_151 : decode cX6_laysSeating 151 = .ok (.aload_n 0, 1) := by decide +kernel
theorem dX6_laysSeating_152 : decode cX6_laysSeating 152 = .ok (.invokevirtual 240, 3) := by decide +kernel
theorem dX6_laysSeating_155 : decode cX6_laysSeating 155 = .ok (.istore_n 3, 1) := by decide +kernel
theorem dX6_laysSeating_156 : decode cX6_laysSeating 156 = .ok (.goto (-87), 3) := by decide +kernel
theorem dX6_laysSeating_159 : decode cX6_laysSeating 159 = .ok (.iload_n 2, 1) := by decide +kernel
theorem dX6_laysSeating_160 : decode cX6_laysSeating 160 = .ok (.ireturn, 1) := by decide +kernel
theorem dX6_seating_0 : decode cX6_seating 0 = .ok (.iload_n 1, 1) := by decide +kernel
theorem dX6_seating_1 : decode cX6_seating 1 = .ok (.i2l, 1) := by decide +kernel
theorem dX6_seating_2 : decode cX6_seating 2 = .ok (.lconst 0, 1) := by decide +kernel
theorem dX6_seating_3 : decode cX6_seating 3 = .ok (.ldc2_w 243, 3) := by decide +kernel
theorem dX6_seating_6 : decode cX6_seating 6 = .ok (.invokestatic 86, 3) := by decide +kernel
theorem dX6_seating_9 : decode cX6_seating 9 = .ok (.ifCond .eq 16, 3) := by decide +kernel
theorem dX6_seating_12 : decode cX6_seating 12 = .ok (.iload_n 2, 1) := by decide +kernel
theorem dX6_seating_13 : decode cX6_seating 13 = .ok (.iconst (-1), 1) := by decide +kernel
theorem dX6_seating_14 : decode cX6_seating 14 = .ok (.if_icmp .eq 16, 3) := by decide +kernel
theorem dX6_seating_17 : decode cX6_seating 17 = .ok (.aload_n 0, 1) := by decide +kernel
theorem dX6_seating_18 : decode cX6_seating 18 = .ok (.iload_n 2, 1) := by decide +kernel
theorem dX6_seating_19 : decode cX6_seating 19 = .ok (.invokevirtual 194, 3) := by decide +kernel
theorem dX6_seating_22 : decode cX6_seating 22 = .ok (.ifCond .ne 8, 3) := by decide +kernel
theorem dX6_seating_25 : decode cX6_seating 25 = .ok (.aload_n 0, 1) := by decide +kernel
theorem dX6_seating_26 : decode cX6_seating 26 = .ok (.invokevirtual 200, 3) := by decide +kernel
theorem dX6_seating_29 : decode cX6_seating 29 = .ok (.ireturn, 1) := by decide +kernel
theorem dX6_seating_30 : decode cX6_seating 30 = .ok (.aload_n 0, 1) := by decide +kernel
theorem dX6_seating_31 : decode cX6_seating 31 = .ok (.iload_n 1, 1) := by decide +kernel
theorem dX6_seating_32 : decode cX6_seating 32 = .ok (.invokevirtual 245, 3) := by decide +kernel
theorem dX6_seating_35 : decode cX6_seating 35 = .ok (.istore_n 3, 1) := by decide +kernel
theorem dX6_seating_36 : decode cX6_seating 36 = .ok (.iload_n 2, 1) := by decide +kernel
theorem dX6_seating_37 : decode cX6_seating 37 = .ok (.iconst (-1), 1) := by decide +kernel
theorem dX6_seating_38 : decode cX6_seating 38 = .ok (.if_icmp .ne 7, 3) := by decide +kernel
theorem dX6_seating_41 : decode cX6_seating 41 = .ok (.iload_n 3, 1) := by decide +kernel
theorem dX6_seating_42 : decode cX6_seating 42 = .ok (.goto 9, 3) := by decide +kernel
theorem dX6_seating_45 : decode cX6_seating 45 = .ok (.aload_n 0, 1) := by decide +kernel
theorem dX6_seating_46 : decode cX6_seating 46 = .ok (.getfield 42, 3) := by decide +kernel
theorem dX6_seating_49 : decode cX6_seating 49 = .ok (.iload_n 2, 1) := by decide +kernel
theorem dX6_seating_50 : decode cX6_seating 50 = .ok (.iaload, 1) := by decide +kernel
theorem dX6_seating_51 : decode cX6_seating 51 = .ok (.ireturn, 1) := by decide +kernel
theorem dX6_quarrels_0 : decode cX6_quarrels 0 = .ok (.iconst 0, 1) := by decide +kernel
theorem dX6_quarrels_1 : decode cX6_quarrels 1 = .ok (.istore_n 1, 1) := by decide +kernel
theorem dX6_quarrels_2 : decode cX6_quarrels 2 = .ok (.iconst 1, 1) := by decide +kernel
theorem dX6_quarrels_3 : decode cX6_quarrels 3 = .ok (.istore_n 2, 1) := by decide +kernel
theorem dX6_quarrels_4 : decode cX6_quarrels 4 = .ok (.iload_n 2, 1) := by decide +kernel
theorem dX6_quarrels_5 : decode cX6_quarrels 5 = .ok (.aload_n 0, 1) := by decide +kernel
theorem dX6_quarrels_6 : decode cX6_quarrels 6 = .ok (.getfield 7, 3) := by decide +kernel
theorem dX6_quarrels_9 : decode cX6_quarrels 9 = .ok (.bipush 33, 2) := by decide +kernel
theorem dX6_quarrels_11 : decode cX6_quarrels 11 = .ok (.iaload, 1) := by decide +kernel
theorem dX6_quarrels_12 : decode cX6_quarrels 12 = .ok (.if_icmp .ge 40, 3) := by decide +kernel
theorem dX6_quarrels_15 : decode cX6_quarrels 15 = .ok (.iload_n 1, 1) := by decide +kernel
theorem dX6_quarrels_16 : decode cX6_quarrels 16 = .ok (.aload_n 0, 1) := by decide +kernel
theorem dX6_quarrels_17 : decode cX6_quarrels 17 = .ok (.getfield 7, 3) := by decide +kernel
theorem dX6_quarrels_20 : decode cX6_quarrels 20 = .ok (.bipush 41, 2) := by decide +kernel
theorem dX6_quarrels_22 : decode cX6_quarrels 22 = .ok (.iload_n 2, 1) := by decide +kernel
theorem dX6_quarrels_23 : decode cX6_quarrels 23 = .ok (.iadd, 1) := by decide +kernel
theorem dX6_quarrels_24 : decode cX6_quarrels 24 = .ok (.iaload, 1) := by decide +kernel
theorem dX6_quarrels_25 : decode cX6_quarrels 25 = .ok (.aload_n 0, 1) := by decide +kernel
theorem dX6_quarrels_26 : decode cX6_quarrels 26 = .ok (.getfield 7, 3) := by decide +kernel
theorem dX6_quarrels_29 : decode cX6_quarrels 29 = .ok (.bipush 41, 2) := by decide +kernel
theorem dX6_quarrels_31 : decode cX6_quarrels 31 = .ok (.iload_n 2, 1) := by decide +kernel
theorem dX6_quarrels_32 : decode cX6_quarrels 32 = .ok (.iadd, 1) := by decide +kernel
theorem dX6_quarrels_33 : decode cX6_quarrels 33 = .ok (.iconst 1, 1) := by decide +kernel
theorem dX6_quarrels_34 : decode cX6_quarrels 34 = .ok (.isub, 1) := by decide +kernel
theorem dX6_quarrels_35 : decode cX6_quarrels 35 = .ok (.iaload, 1) := by decide +kernel
theorem dX6_quarrels_36 : decode cX6_quarrels 36 = .ok (.if_icmp .ne 7, 3) := by decide +kernel
theorem dX6_quarrels_39 : decode cX6_quarrels 39 = .ok (.iconst 1, 1) := by decide +kernel
theorem dX6_quarrels_40 : decode cX6_quarrels 40 = .ok (.goto 4, 3) := by decide +kernel
theorem dX6_quarrels_43 : decode cX6_quarrels 43 = .ok (.iconst 0, 1) := by decide +kernel
theorem dX6_quarrels_44 : decode cX6_quarrels 44 = .ok (.iadd, 1) := by decide +kernel
theorem dX6_quarrels_45 : decode cX6_quarrels 45 = .ok (.istore_n 1, 1) := by decide +kernel
theorem dX6_quarrels_46 : decode cX6_quarrels 46 = .ok (.iinc 2 1, 3) := by decide +kernel
theorem dX6_quarrels_49 : decode cX6_quarrels 49 = .ok (.goto (-45), 3) := by decide +kernel
theorem dX6_quarrels_52 : decode cX6_quarrels 52 = .ok (.iload_n 1, 1) := by decide +kernel
theorem dX6_quarrels_53 : decode cX6_quarrels 53 = .ok (.ireturn, 1) := by decide +kernel
theorem dX6_nextOrder_0 : decode cX6_nextOrder 0 = .ok (.iload_n 1, 1) := by decide +kernel
theorem dX6_nextOrder_1 : decode cX6_nextOrder 1 = .ok (.iconst 2, 1) := by decide +kernel
theorem dX6_nextOrder_2 : decode cX6_nextOrder 2 = .ok (.isub, 1) := by decide +kernel
theorem dX6_nextOrder_3 : decode cX6_nextOrder 3 = .ok (.istore_n 2, 1) := by decide +kernel
theorem dX6_nextOrder_4 : decode cX6_nextOrder 4 = .ok (.iload_n 2, 1) := by decide +kernel
theorem dX6_nextOrder_5 : decode cX6_nextOrder 5 = .ok (.ifCond .lt 26, 3) := by decide +kernel
theorem dX6_nextOrder_8 : decode cX6_nextOrder 8 = .ok (.aload_n 0, 1) := by decide +kernel
theorem dX6_nextOrder_9 : decode cX6_nextOrder 9 = .ok (.getfield 39, 3) := by decide +kernel
theorem dX6_nextOrder_12 : decode cX6_nextOrder 12 = .ok (.iload_n 2, 1) := by decide +kernel
theorem dX6_nextOrder_13 : decode cX6_nextOrder 13 = .ok (.iaload, 1) := by decide +kernel
theorem dX6_nextOrder_14 : decode cX6_nextOrder 14 = .ok (.aload_n 0, 1) := by decide +kernel
theorem dX6_nextOrder_15 : decode cX6_nextOrder 15 = .ok (.getfield 39, 3) := by decide +kernel
theorem dX6_nextOrder_18 : decode cX6_nextOrder 18 = .ok (.iload_n 2, 1) := by decide +kernel
theorem dX6_nextOrder_19 : decode cX6_nextOrder 19 = .ok (.iconst 1, 1) := by decide +kernel
theorem dX6_nextOrder_20 : decode cX6_nextOrder 20 = .ok (.iadd, 1) := by decide +kernel
theorem dX6_nextOrder_21 : decode cX6_nextOrder 21 = .ok (.iaload, 1) := by decide +kernel
theorem dX6_nextOrder_22 : decode cX6_nextOrder 22 = .ok (.if_icmp .le 9, 3) := by decide +kernel
theorem dX6_nextOrder_25 : decode cX6_nextOrder 25 = .ok (.iinc 2 (-1), 3) := by decide +kernel
theorem dX6_nextOrder_28 : decode cX6_nextOrder 28 = .ok (.goto (-24), 3) := by decide +kernel
theorem dX6_nextOrder_31 : decode cX6_nextOrder 31 = .ok (.iload_n 2, 1) := by decide +kernel
theorem dX6_nextOrder_32 : decode cX6_nextOrder 32 = .ok (.ifCond .ge 5, 3) := by decide +kernel
theorem dX6_nextOrder_35 : decode cX6_nextOrder 35 = .ok (.iconst 0, 1) := by decide +kernel
theorem dX6_nextOrder_36 : decode cX6_nextOrder 36 = .ok (.ireturn, 1) := by decide +kernel
theorem dX6_nextOrder_37 : decode cX6_nextOrder 37 = .ok (.iload_n 1, 1) := by decide +kernel
theorem dX6_nextOrder_38 : decode cX6_nextOrder 38 = .ok (.iconst 1, 1) := by decide +kernel
theorem dX6_nextOrder_39 : decode cX6_nextOrder 39 = .ok (.isub, 1) := by decide +kernel
theorem dX6_nextOrder_40 : decode cX6_nextOrder 40 = .ok (.istore_n 3, 1) := by decide +kernel
theorem dX6_nextOrder_41 : decode cX6_nextOrder 41 = .ok (.aload_n 0, 1) := by decide +kernel
theorem dX6_nextOrder_42 : decode cX6_nextOrder 42 = .ok (.getfield 39, 3) := by decide +kernel
theorem dX6_nextOrder_45 : decode cX6_nextOrder 45 = .ok (.iload_n 3, 1) := by decide +kernel
theorem dX6_nextOrder_46 : decode cX6_nextOrder 46 = .ok (.iaload, 1) := by decide +kernel
theorem dX6_nextOrder_47 : decode cX6_nextOrder 47 = .ok (.aload_n 0, 1) := by decide +kernel
theorem dX6_nextOrder_48 : decode cX6_nextOrder 48 = .ok (.getfield 39, 3) := by decide +kernel
theorem dX6_nextOrder_51 : decode cX6_nextOrder 51 = .ok (.iload_n 2, 1) := by decide +kernel
theorem dX6_nextOrder_52 : decode cX6_nextOrder 52 = .ok (.iaload, 1) := by decide +kernel
theorem dX6_nextOrder_53 : decode cX6_nextOrder 53 = .ok (.if_icmp .ge 9, 3) := by decide +kernel
theorem dX6_nextOrder_56 : decode cX6_nextOrder 56 = .ok (.iinc 3 (-1), 3) := by decide +kernel
theorem dX6_nextOrder_59 : decode cX6_nextOrder 59 = .ok (.goto (-18), 3) := by decide +kernel
theorem dX6_nextOrder_62 : decode cX6_nextOrder 62 = .ok (.aload_n 0, 1) := by decide +kernel
theorem dX6_nextOrder_63 : decode cX6_nextOrder 63 = .ok (.getfield 39, 3) := by decide +kernel
theorem dX6_nextOrder_66 : decode cX6_nextOrder 66 = .ok (.iload_n 2, 1) := by decide +kernel
theorem dX6_nextOrder_67 : decode cX6_nextOrder 67 = .ok (.iaload, 1) := by decide +kernel
theorem dX6_nextOrder_68 : decode cX6_nextOrder 68 = .ok (.istore 4, 2) := by decide +kernel
theorem dX6_nextOrder_70 : decode cX6_nextOrder 70 = .ok (.aload_n 0, 1) := by decide +kernel
theorem dX6_nextOrder_71 : decode cX6_nextOrder 71 = .ok (.getfield 39, 3) := by decide +kernel
theorem dX6_nextOrder_74 : decode cX6_nextOrder 74 = .ok (.iload_n 2, 1) := by decide +kernel
theorem dX6_nextOrder_75 : decode cX6_nextOrder 75 = .ok (.aload_n 0, 1) := by decide +kernel
theorem dX6_nextOrder_76 : decode cX6_nextOrder 76 = .ok (.getfield 39, 3) := by decide +kernel
theorem dX6_nextOrder_79 : decode cX6_nextOrder 79 = .ok (.iload_n 3, 1) := by decide +kernel
theorem dX6_nextOrder_80 : decode cX6_nextOrder 80 = .ok (.iaload, 1) := by decide +kernel
theorem dX6_nextOrder_81 : decode cX6_nextOrder 81 = .ok (.iastore, 1) := by decide +kernel
theorem dX6_nextOrder_82 : decode cX6_nextOrder 82 = .ok (.aload_n 0, 1) := by decide +kernel
theorem dX6_nextOrder_83 : decode cX6_nextOrder 83 = .ok (.getfield 39, 3) := by decide +kernel
theorem dX6_nextOrder_86 : decode cX6_nextOrder 86 = .ok (.iload_n 3, 1) := by decide +kernel
theorem dX6_nextOrder_87 : decode cX6_nextOrder 87 = .ok (.iload 4, 2) := by decide +kernel
theorem dX6_nextOrder_89 : decode cX6_nextOrder 89 = .ok (.iastore, 1) := by decide +kernel
theorem dX6_nextOrder_90 : decode cX6_nextOrder 90 = .ok (.iload_n 2, 1) := by decide +kernel
theorem dX6_nextOrder_91 : decode cX6_nextOrder 91 = .ok (.iconst 1, 1) := by decide +kernel
theorem dX6_nextOrder_92 : decode cX6_nextOrder 92 = .ok (.iadd, 1) := by decide +kernel
theorem dX6_nextOrder_93 : decode cX6_nextOrder 93 = .ok (.istore 5, 2) := by decide +kernel
theorem dX6_nextOrder_95 : decode cX6_nextOrder 95 = .ok (.iload_n 1, 1) := by decide +kernel
theorem dX6_nextOrder_96 : decode cX6_nextOrder 96 = .ok (.iconst 1, 1) := by decide +kernel
theorem dX6_nextOrder_97 : decode cX6_nextOrder 97 = .ok (.isub, 1) := by decide +kernel
theorem dX6_nextOrder_98 : decode cX6_nextOrder 98 = .ok (.istore 6, 2) := by decide +kernel
theorem dX6_nextOrder_100 : decode cX6_nextOrder 100 = .ok (.iload 5, 2) := by decide +kernel
theorem dX6_nextOrder_102 : decode cX6_nextOrder 102 = .ok (.iload 6, 2) := by decide +kernel
theorem dX6_nextOrder_104 : decode cX6_nextOrder 104 = .ok (.if_icmp .ge 44, 3) := by decide +kernel
theorem dX6_nextOrder_107 : decode cX6_nextOrder 107 = .ok (.aload_n 0, 1) := by decide +kernel
theorem dX6_nextOrder_108 : decode cX6_nextOrder 108 = .ok (.getfield 39, 3) := by decide +kernel
theorem dX6_nextOrder_111 : decode cX6_nextOrder 111 = .ok (.iload 5, 2) := by decide +kernel
theorem dX6_nextOrder_113 : decode cX6_nextOrder 113 = .ok (.iaload, 1) := by decide +kernel
theorem dX6_nextOrder_114 : decode cX6_nextOrder 114 = .ok (.istore 4, 2) := by decide +kernel
theorem dX6_nextOrder_116 : decode cX6_nextOrder 116 = .ok (.aload_n 0, 1) := by decide +kernel
theorem dX6_nextOrder_117 : decode cX6_nextOrder 117 = .ok (.getfield 39, 3) := by decide +kernel
theorem dX6_nextOrder_120 : decode cX6_nextOrder 120 = .ok (.iload 5, 2) := by decide +kernel
theorem dX6_nextOrder_122 : decode cX6_nextOrder 122 = .ok (.aload_n 0, 1) := by decide +kernel
theorem dX6_nextOrder_123 : decode cX6_nextOrder 123 = .ok (.getfield 39, 3) := by decide +kernel
theorem dX6_nextOrder_126 : decode cX6_nextOrder 126 = .ok (.iload 6, 2) := by decide +kernel
theorem dX6_nextOrder_128 : decode cX6_nextOrder 128 = .ok (.iaload, 1) := by decide +kernel
end
section
theorem dX6_nextOrder_129 : decode cX6_nextOrder 129 = .ok (.iastore, 1) := by decide +kernel
theorem dX6_nextOrder_130 : decode cX6_nextOrder 130 = .ok (.aload_n 0, 1) := by decide +kernel
theorem dX6_nextOrder_131 : decode cX6_nextOrder 131 = .ok (.getfield 39, 3) := by decide +kernel
theorem dX6_nextOrder_134 : decode cX6_nextOrder 134 = .ok (.iload 6, 2) := by decide +kernel
theorem dX6_nextOrder_136 : decode cX6_nextOrder 136 = .ok (.iload 4, 2) := by decide +kernel
theorem dX6_nextOrder_138 : decode cX6_nextOrder 138 = .ok (.iastore, 1) := by decide +kernel
theorem dX6_nextOrder_139 : decode cX6_nextOrder 139 = .ok (.iinc 5 1, 3) := by decide +kernel
theorem dX6_nextOrder_142 : decode cX6_nextOrder 142 = .ok (.iinc 6 (-1), 3) := by decide +kernel
theorem dX6_nextOrder_145 : decode cX6_nextOrder 145 = .ok (.goto (-45), 3) := by decide +kernel
theorem dX6_nextOrder_148 : decode cX6_nextOrder 148 = .ok (.iconst 1, 1) := by decide +kernel
theorem dX6_nextOrder_149 : decode cX6_nextOrder 149 = .ok (.ireturn, 1) := by decide +kernel
theorem dX6_row_0 : decode cX6_row 0 = .ok (.aload_n 0, 1) := by decide +kernel
theorem dX6_row_1 : decode cX6_row 1 = .ok (.getfield 7, 3) := by decide +kernel
theorem dX6_row_4 : decode cX6_row 4 = .ok (.bipush 33, 2) := by decide +kernel
theorem dX6_row_6 : decode cX6_row 6 = .ok (.iaload, 1) := by decide +kernel
theorem dX6_row_7 : decode cX6_row 7 = .ok (.istore_n 2, 1) := by decide +kernel
theorem dX6_row_8 : decode cX6_row 8 = .ok (.iload_n 1, 1) := by decide +kernel
theorem dX6_row_9 : decode cX6_row 9 = .ok (.i2l, 1) := by decide +kernel
theorem dX6_row_10 : decode cX6_row 10 = .ok (.lconst 0, 1) := by decide +kernel
theorem dX6_row_11 : decode cX6_row 11 = .ok (.iload_n 2, 1) := by decide +kernel
theorem dX6_row_12 : decode cX6_row 12 = .ok (.iconst 1, 1) := by decide +kernel
theorem dX6_row_13 : decode cX6_row 13 = .ok (.isub, 1) := by decide +kernel
theorem dX6_row_14 : decode cX6_row 14 = .ok (.i2l, 1) := by decide +kernel
theorem dX6_row_15 : decode cX6_row 15 = .ok (.invokestatic 86, 3) := by decide +kernel
theorem dX6_row_18 : decode cX6_row 18 = .ok (.ifCond .ne 8, 3) := by decide +kernel
theorem dX6_row_21 : decode cX6_row 21 = .ok (.aload_n 0, 1) := by decide +kernel
theorem dX6_row_22 : decode cX6_row 22 = .ok (.invokevirtual 100, 3) := by decide +kernel
theorem dX6_row_25 : decode cX6_row 25 = .ok (.ireturn, 1) := by decide +kernel
theorem dX6_row_26 : decode cX6_row 26 = .ok (.iconst 0, 1) := by decide +kernel
theorem dX6_row_27 : decode cX6_row 27 = .ok (.istore_n 3, 1) := by decide +kernel
theorem dX6_row_28 : decode cX6_row 28 = .ok (.iload_n 3, 1) := by decide +kernel
theorem dX6_row_29 : decode cX6_row 29 = .ok (.iload_n 2, 1) := by decide +kernel
theorem dX6_row_30 : decode cX6_row 30 = .ok (.if_icmp .ge 16, 3) := by decide +kernel
theorem dX6_row_33 : decode cX6_row 33 = .ok (.aload_n 0, 1) := by decide +kernel
theorem dX6_row_34 : decode cX6_row 34 = .ok (.getfield 39, 3) := by decide +kernel
theorem dX6_row_37 : decode cX6_row 37 = .ok (.iload_n 3, 1) := by decide +kernel
theorem dX6_row_38 : decode cX6_row 38 = .ok (.iload_n 3, 1) := by decide +kernel
theorem dX6_row_39 : decode cX6_row 39 = .ok (.iastore, 1) := by decide +kernel
theorem dX6_row_40 : decode cX6_row 40 = .ok (.iinc 3 1, 3) := by decide +kernel
theorem dX6_row_43 : decode cX6_row 43 = .ok (.goto (-15), 3) := by decide +kernel
theorem dX6_row_46 : decode cX6_row 46 = .ok (.iconst 1, 1) := by decide +kernel
theorem dX6_row_47 : decode cX6_row 47 = .ok (.istore_n 3, 1) := by decide +kernel
theorem dX6_row_48 : decode cX6_row 48 = .ok (.iload_n 3, 1) := by decide +kernel
theorem dX6_row_49 : decode cX6_row 49 = .ok (.ifCond .eq 89, 3) := by decide +kernel
theorem dX6_row_52 : decode cX6_row 52 = .ok (.iconst 1, 1) := by decide +kernel
theorem dX6_row_53 : decode cX6_row 53 = .ok (.istore 4, 2) := by decide +kernel
theorem dX6_row_55 : decode cX6_row 55 = .ok (.iconst 1, 1) := by decide +kernel
theorem dX6_row_56 : decode cX6_row 56 = .ok (.istore 5, 2) := by decide +kernel
theorem dX6_row_58 : decode cX6_row 58 = .ok (.iload 5, 2) := by decide +kernel
theorem dX6_row_60 : decode cX6_row 60 = .ok (.iload_n 2, 1) := by decide +kernel
theorem dX6_row_61 : decode cX6_row 61 = .ok (.if_icmp .ge 56, 3) := by decide +kernel
theorem dX6_row_64 : decode cX6_row 64 = .ok (.iload 4, 2) := by decide +kernel
theorem dX6_row_66 : decode cX6_row 66 = .ok (.ifCond .eq 42, 3) := by decide +kernel
theorem dX6_row_69 : decode cX6_row 69 = .ok (.aload_n 0, 1) := by decide +kernel
theorem dX6_row_70 : decode cX6_row 70 = .ok (.getfield 7, 3) := by decide +kernel
theorem dX6_row_73 : decode cX6_row 73 = .ok (.bipush 41, 2) := by decide +kernel
theorem dX6_row_75 : decode cX6_row 75 = .ok (.aload_n 0, 1) := by decide +kernel
theorem dX6_row_76 : decode cX6_row 76 = .ok (.getfield 39, 3) := by decide +kernel
theorem dX6_row_79 : decode cX6_row 79 = .ok (.iload 5, 2) := by decide +kernel
theorem dX6_row_81 : decode cX6_row 81 = .ok (.iaload, 1) := by decide +kernel
theorem dX6_row_82 : decode cX6_row 82 = .ok (.iadd, 1) := by decide +kernel
theorem dX6_row_83 : decode cX6_row 83 = .ok (.iaload, 1) := by decide +kernel
theorem dX6_row_84 : decode cX6_row 84 = .ok (.aload_n 0, 1) := by decide +kernel
theorem dX6_row_85 : decode cX6_row 85 = .ok (.getfield 7, 3) := by decide +kernel
theorem dX6_row_88 : decode cX6_row 88 = .ok (.bipush 41, 2) := by decide +kernel
theorem dX6_row_90 : decode cX6_row 90 = .ok (.aload_n 0, 1) := by decide +kernel
theorem dX6_row_91 : decode cX6_row 91 = .ok (.getfield 39, 3) := by decide +kernel
theorem dX6_row_94 : decode cX6_row 94 = .ok (.iload 5, 2) := by decide +kernel
theorem dX6_row_96 : decode cX6_row 96 = .ok (.iconst 1, 1) := by decide +kernel
theorem dX6_row_97 : decode cX6_row 97 = .ok (.isub, 1) := by decide +kernel
theorem dX6_row_98 : decode cX6_row 98 = .ok (.iaload, 1) := by decide +kernel
theorem dX6_row_99 : decode cX6_row 99 = .ok (.iadd, 1) := by decide +kernel
theorem dX6_row_100 : decode cX6_row 100 = .ok (.iaload, 1) := by decide +kernel
theorem dX6_row_101 : decode cX6_row 101 = .ok (.if_icmp .eq 7, 3) := by decide +kernel
theorem dX6_row_104 : decode cX6_row 104 = .ok (.iconst 1, 1) := by decide +kernel
theorem dX6_row_105 : decode cX6_row 105 = .ok (.goto 4, 3) := by decide +kernel
theorem dX6_row_108 : decode cX6_row 108 = .ok (.iconst 0, 1) := by decide +kernel
theorem dX6_row_109 : decode cX6_row 109 = .ok (.istore 4, 2) := by decide +kernel
theorem dX6_row_111 : decode cX6_row 111 = .ok (.iinc 5 1, 3) := by decide +kernel
theorem dX6_row_114 : decode cX6_row 114 = .ok (.goto (-56), 3) := by decide +kernel
theorem dX6_row_117 : decode cX6_row 117 = .ok (.iload 4, 2) := by decide +kernel
theorem dX6_row_119 : decode cX6_row 119 = .ok (.ifCond .eq 10, 3) := by decide +kernel
theorem dX6_row_122 : decode cX6_row 122 = .ok (.aload_n 0, 1) := by decide +kernel
theorem dX6_row_123 : decode cX6_row 123 = .ok (.getfield 39, 3) := by decide +kernel
theorem dX6_row_126 : decode cX6_row 126 = .ok (.iload_n 1, 1) := by decide +kernel
theorem dX6_row_127 : decode cX6_row 127 = .ok (.iaload, 1) := by decide +kernel
theorem dX6_row_128 : decode cX6_row 128 = .ok (.ireturn, 1) := by decide +kernel
theorem dX6_row_129 : decode cX6_row 129 = .ok (.aload_n 0, 1) := by decide +kernel
theorem dX6_row_130 : decode cX6_row 130 = .ok (.iload_n 2, 1) := by decide +kernel
theorem dX6_row_131 : decode cX6_row 131 = .ok (.invokevirtual 249, 3) := by decide +kernel
theorem dX6_row_134 : decode cX6_row 134 = .ok (.istore_n 3, 1) := by decide +kernel
theorem dX6_row_135 : decode cX6_row 135 = .ok (.goto (-87), 3) := by decide +kernel
theorem dX6_row_138 : decode cX6_row 138 = .ok (.iconst (-1), 1) := by decide +kernel
theorem dX6_row_139 : decode cX6_row 139 = .ok (.ireturn, 1) := by decide +kernel
theorem dX6_blur_0 : decode cX6_blur 0 = .ok (.aload_n 0, 1) := by decide +kernel
theorem dX6_blur_1 : decode cX6_blur 1 = .ok (.iload_n 1, 1) := by decide +kernel
theorem dX6_blur_2 : decode cX6_blur 2 = .ok (.invokevirtual 197, 3) := by decide +kernel
theorem dX6_blur_5 : decode cX6_blur 5 = .ok (.ifCond .eq 36, 3) := by decide +kernel
theorem dX6_blur_8 : decode cX6_blur 8 = .ok (.aload_n 0, 1) := by decide +kernel
theorem dX6_blur_9 : decode cX6_blur 9 = .ok (.iload_n 2, 1) := by decide +kernel
theorem dX6_blur_10 : decode cX6_blur 10 = .ok (.invokevirtual 194, 3) := by decide +kernel
theorem dX6_blur_13 : decode cX6_blur 13 = .ok (.ifCond .eq 28, 3) := by decide +kernel
theorem dX6_blur_16 : decode cX6_blur 16 = .ok (.iload_n 3, 1) := by decide +kernel
theorem dX6_blur_17 : decode cX6_blur 17 = .ok (.i2l, 1) := by decide +kernel
theorem dX6_blur_18 : decode cX6_blur 18 = .ok (.lconst 0, 1) := by decide +kernel
theorem dX6_blur_19 : decode cX6_blur 19 = .ok (.ldc2_w 252, 3) := by decide +kernel
theorem dX6_blur_22 : decode cX6_blur 22 = .ok (.invokestatic 86, 3) := by decide +kernel
theorem dX6_blur_25 : decode cX6_blur 25 = .ok (.ifCond .eq 16, 3) := by decide +kernel
theorem dX6_blur_28 : decode cX6_blur 28 = .ok (.iload 4, 2) := by decide +kernel
theorem dX6_blur_30 : decode cX6_blur 30 = .ok (.i2l, 1) := by decide +kernel
theorem dX6_blur_31 : decode cX6_blur 31 = .ok (.lconst 0, 1) := by decide +kernel
theorem dX6_blur_32 : decode cX6_blur 32 = .ok (.ldc2_w 254, 3) := by decide +kernel
theorem dX6_blur_35 : decode cX6_blur 35 = .ok (.invokestatic 86, 3) := by decide +kernel
theorem dX6_blur_38 : decode cX6_blur 38 = .ok (.ifCond .ne 8, 3) := by decide +kernel
theorem dX6_blur_41 : decode cX6_blur 41 = .ok (.aload_n 0, 1) := by decide +kernel
theorem dX6_blur_42 : decode cX6_blur 42 = .ok (.invokevirtual 100, 3) := by decide +kernel
theorem dX6_blur_45 : decode cX6_blur 45 = .ok (.ireturn, 1) := by decide +kernel
theorem dX6_blur_46 : decode cX6_blur 46 = .ok (.aload_n 0, 1) := by decide +kernel
theorem dX6_blur_47 : decode cX6_blur 47 = .ok (.getfield 7, 3) := by decide +kernel
theorem dX6_blur_50 : decode cX6_blur 50 = .ok (.bipush 34, 2) := by decide +kernel
theorem dX6_blur_52 : decode cX6_blur 52 = .ok (.iload_n 1, 1) := by decide +kernel
theorem dX6_blur_53 : decode cX6_blur 53 = .ok (.iadd, 1) := by decide +kernel
theorem dX6_blur_54 : decode cX6_blur 54 = .ok (.iaload, 1) := by decide +kernel
theorem dX6_blur_55 : decode cX6_blur 55 = .ok (.aload_n 0, 1) := by decide +kernel
theorem dX6_blur_56 : decode cX6_blur 56 = .ok (.getfield 7, 3) := by decide +kernel
theorem dX6_blur_59 : decode cX6_blur 59 = .ok (.bipush 49, 2) := by decide +kernel
theorem dX6_blur_61 : decode cX6_blur 61 = .ok (.iload_n 2, 1) := by decide +kernel
theorem dX6_blur_62 : decode cX6_blur 62 = .ok (.iadd, 1) := by decide +kernel
theorem dX6_blur_63 : decode cX6_blur 63 = .ok (.iaload, 1) := by decide +kernel
theorem dX6_blur_64 : decode cX6_blur 64 = .ok (.aload_n 0, 1) := by decide +kernel
theorem dX6_blur_65 : decode cX6_blur 65 = .ok (.getfield 7, 3) := by decide +kernel
theorem dX6_blur_68 : decode cX6_blur 68 = .ok (.bipush 54, 2) := by decide +kernel
theorem dX6_blur_70 : decode cX6_blur 70 = .ok (.iload_n 2, 1) := by decide +kernel
theorem dX6_blur_71 : decode cX6_blur 71 = .ok (.iadd, 1) := by decide +kernel
theorem dX6_blur_72 : decode cX6_blur 72 = .ok (.iaload, 1) := by decide +kernel
theorem dX6_blur_73 : decode cX6_blur 73 = .ok (.invokestatic 72, 3) := by decide +kernel
theorem dX6_blur_76 : decode cX6_blur 76 = .ok (.invokestatic 75, 3) := by decide +kernel
theorem dX6_blur_79 : decode cX6_blur 79 = .ok (.istore 5, 2) := by decide +kernel
theorem dX6_blur_81 : decode cX6_blur 81 = .ok (.iconst 0, 1) := by decide +kernel
theorem dX6_blur_82 : decode cX6_blur 82 = .ok (.istore 6, 2) := by decide +kernel
theorem dX6_blur_84 : decode cX6_blur 84 = .ok (.iconst (-1), 1) := by decide +kernel
theorem dX6_blur_85 : decode cX6_blur 85 = .ok (.istore 7, 2) := by decide +kernel
theorem dX6_blur_87 : decode cX6_blur 87 = .ok (.iconst (-1), 1) := by decide +kernel
theorem dX6_blur_88 : decode cX6_blur 88 = .ok (.istore 8, 2) := by decide +kernel
theorem dX6_blur_90 : decode cX6_blur 90 = .ok (.iconst 0, 1) := by decide +kernel
theorem dX6_blur_91 : decode cX6_blur 91 = .ok (.istore 9, 2) := by decide +kernel
theorem dX6_blur_93 : decode cX6_blur 93 = .ok (.iload 9, 2) := by decide +kernel
theorem dX6_blur_95 : decode cX6_blur 95 = .ok (.bipush 41, 2) := by decide +kernel
theorem dX6_blur_97 : decode cX6_blur 97 = .ok (.if_icmp .ge 102, 3) := by decide +kernel
theorem dX6_blur_100 : decode cX6_blur 100 = .ok (.iload 9, 2) := by decide +kernel
theorem dX6_blur_102 : decode cX6_blur 102 = .ok (.iload_n 3, 1) := by decide +kernel
theorem dX6_blur_103 : decode cX6_blur 103 = .ok (.iload 5, 2) := by decide +kernel
theorem dX6_blur_105 : decode cX6_blur 105 = .ok (.imul, 1) := by decide +kernel
theorem dX6_blur_106 : decode cX6_blur 106 = .ok (.isub, 1) := by decide +kernel
theorem dX6_blur_107 : decode cX6_blur 107 = .ok (.ifCond .ge 7, 3) := by decide +kernel
theorem dX6_blur_110 : decode cX6_blur 110 = .ok (.iconst 0, 1) := by decide +kernel
theorem dX6_blur_111 : decode cX6_blur 111 = .ok (.goto 10, 3) := by decide +kernel
theorem dX6_blur_114 : decode cX6_blur 114 = .ok (.iload 9, 2) := by decide +kernel
theorem dX6_blur_116 : decode cX6_blur 116 = .ok (.iload_n 3, 1) := by decide +kernel
theorem dX6_blur_117 : decode cX6_blur 117 = .ok (.iload 5, 2) := by decide +kernel
theorem dX6_blur_119 : decode cX6_blur 119 = .ok (.imul, 1) := by decide +kernel
theorem dX6_blur_120 : decode cX6_blur 120 = .ok (.isub, 1) := by decide +kernel
theorem dX6_blur_121 : decode cX6_blur 121 = .ok (.istore 10, 2) := by decide +kernel
theorem dX6_blur_123 : decode cX6_blur 123 = .ok (.iload 10, 2) := by decide +kernel
theorem dX6_blur_125 : decode cX6_blur 125 = .ok (.aload_n 0, 1) := by decide +kernel
theorem dX6_blur_126 : decode cX6_blur 126 = .ok (.getfield 7, 3) := by decide +kernel
theorem dX6_blur_129 : decode cX6_blur 129 = .ok (.bipush 25, 2) := by decide +kernel
theorem dX6_blur_131 : decode cX6_blur 131 = .ok (.iload_n 1, 1) := by decide +kernel
theorem dX6_blur_132 : decode cX6_blur 132 = .ok (.iadd, 1) := by decide +kernel
theorem dX6_blur_133 : decode cX6_blur 133 = .ok (.iaload, 1) := by decide +kernel
theorem dX6_blur_134 : decode cX6_blur 134 = .ok (.if_icmp .ne 7, 3) := by decide +kernel
theorem dX6_blur_137 : decode cX6_blur 137 = .ok (.iconst 1, 1) := by decide +kernel
theorem dX6_blur_138 : decode cX6_blur 138 = .ok (.goto 4, 3) := by decide +kernel
theorem dX6_blur_141 : decode cX6_blur 141 = .ok (.iconst 0, 1) := by decide +kernel
theorem dX6_blur_142 : decode cX6_blur 142 = .ok (.istore 11, 2) := by decide +kernel
theorem dX6_blur_144 : decode cX6_blur 144 = .ok (.iload 6, 2) := by decide +kernel
theorem dX6_blur_146 : decode cX6_blur 146 = .ok (.iload 11, 2) := by decide +kernel
theorem dX6_blur_148 : decode cX6_blur 148 = .ok (.ifCond .eq 7, 3) := by decide +kernel
theorem dX6_blur_151 : decode cX6_blur 151 = .ok (.iconst 1, 1) := by decide +kernel
theorem dX6_blur_152 : decode cX6_blur 152 = .ok (.goto 4, 3) := by decide +kernel
theorem dX6_blur_155 : decode cX6_blur 155 = .ok (.iconst 0, 1) := by decide +kernel
theorem dX6_blur_156 : decode cX6_blur 156 = .ok (.iadd, 1) := by decide +kernel
theorem dX6_blur_157 : decode cX6_blur 157 = .ok (.istore 6, 2) := by decide +kernel
theorem dX6_blur_159 : decode cX6_blur 159 = .ok (.iload 11, 2) := by decide +kernel
theorem dX6_blur_161 : decode cX6_blur 161 = .ok (.ifCond .eq 14, 3) := by decide +kernel
theorem dX6_blur_164 : decode cX6_blur 164 = .ok (.iload 7, 2) := by decide +kernel
theorem dX6_blur_166 : decode cX6_blur 166 = .ok (.iconst (-1), 1) := by decide +kernel
theorem dX6_blur_167 : decode cX6_blur 167 = .ok (.if_icmp .ne 8, 3) := by decide +kernel
theorem dX6_blur_170 : decode cX6_blur 170 = .ok (.iload 9, 2) := by decide +kernel
theorem dX6_blur_172 : decode cX6_blur 172 = .ok (.goto 5, 3) := by decide +kernel
theorem dX6_blur_175 : decode cX6_blur 175 = .ok (.iload 7, 2) := by decide +kernel
theorem dX6_blur_177 : decode cX6_blur 177 = .ok (.istore 7, 2) := by decide +kernel
theorem dX6_blur_179 : decode cX6_blur 179 = .ok (.iload 11, 2) := by decide +kernel
theorem dX6_blur_181 : decode cX6_blur 181 = .ok (.ifCond .eq 8, 3) := by decide +kernel
theorem dX6_blur_184 : decode cX6_blur 184 = .ok (.iload 9, 2) := by decide +kernel
theorem dX6_blur_186 : decode cX6_blur 186 = .ok (.goto 5, 3) := by decide +kernel
theorem dX6_blur_189 : decode cX6_blur 189 = .ok (.iload 8, 2) := by decide +kernel
theorem dX6_blur_191 : decode cX6_blur 191 = .ok (.istore 8, 2) := by decide +kernel
theorem dX6_blur_193 : decode cX6_blur 193 = .ok (.iinc 9 1, 3) := by decide +kernel
theorem dX6_blur_196 : decode cX6_blur 196 = .ok (.goto (-103), 3) := by decide +kernel
theorem dX6_blur_199 : decode cX6_blur 199 = .ok (.iload 4, 2) := by decide +kernel
theorem dX6_blur_201 : decode cX6_blur 201 = .ok (.ifCond .ne 8, 3) := by decide +kernel
theorem dX6_blur_204 : decode cX6_blur 204 = .ok (.iload 6, 2) := by decide +kernel
theorem dX6_blur_206 : decode cX6_blur 206 = .ok (.goto 16, 3) := by decide +kernel
theorem dX6_blur_209 : decode cX6_blur 209 = .ok (.iload 4, 2) := by decide +kernel
theorem dX6_blur_211 : decode cX6_blur 211 = .ok (.iconst 1, 1) := by decide +kernel
theorem dX6_blur_212 : decode cX6_blur 212 = .ok (.if_icmp .ne 8, 3) := by decide +kernel
theorem dX6_blur_215 : decode cX6_blur 215 = .ok (.iload 7, 2) := by decide +kernel
theorem dX6_blur_217 : decode cX6_blur 217 = .ok (.goto 5, 3) := by decide +kernel
theorem dX6_blur_220 : decode cX6_blur 220 = .ok (.iload 8, 2) := by decide +kernel
theorem dX6_blur_222 : decode cX6_blur 222 = .ok (.ireturn, 1) := by decide +kernel
theorem dX6_where_0 : decode cX6_where 0 = .ok (.aload_n 0, 1) := by decide +kernel
theorem dX6_where_1 : decode cX6_where 1 = .ok (.iload_n 1, 1) := by decide +kernel
theorem dX6_where_2 : decode cX6_where 2 = .ok (.invokevirtual 194, 3) := by decide +kernel
theorem dX6_where_5 : decode cX6_where 5 = .ok (.ifCond .eq 22, 3) := by decide +kernel
theorem dX6_where_8 : decode cX6_where 8 = .ok (.iload_n 2, 1) := by decide +kernel
theorem dX6_where_9 : decode cX6_where 9 = .ok (.invokestatic 94, 3) := by decide +kernel
theorem dX6_where_12 : decode cX6_where 12 = .ok (.ifCond .eq 15, 3) := by decide +kernel
theorem dX6_where_15 : decode cX6_where 15 = .ok (.iload_n 3, 1) := by decide +kernel
theorem dX6_where_16 : decode cX6_where 16 = .ok (.i2l, 1) := by decide +kernel
theorem dX6_where_17 : decode cX6_where 17 = .ok (.lconst 0, 1) := by decide +kernel
theorem dX6_where_18 : decode cX6_where 18 = .ok (.ldc2_w 219, 3) := by decide +kernel
theorem dX6_where_21 : decode cX6_where 21 = .ok (.invokestatic 86, 3) := by decide +kernel
theorem dX6_where_24 : decode cX6_where 24 = .ok (.ifCond .ne 8, 3) := by decide +kernel
theorem dX6_where_27 : decode cX6_where 27 = .ok (.aload_n 0, 1) := by decide +kernel
theorem dX6_where_28 : decode cX6_where 28 = .ok (.invokevirtual 100, 3) := by decide +kernel
theorem dX6_where_31 : decode cX6_where 31 = .ok (.ireturn, 1) := by decide +kernel
theorem dX6_where_32 : decode cX6_where 32 = .ok (.iconst 0, 1) := by decide +kernel
theorem dX6_where_33 : decode cX6_where 33 = .ok (.istore 4, 2) := by decide +kernel
theorem dX6_where_35 : decode cX6_where 35 = .ok (.iconst 0, 1) := by decide +kernel
theorem dX6_where_36 : decode cX6_where 36 = .ok (.istore 5, 2) := by decide +kernel
theorem dX6_where_38 : decode cX6_where 38 = .ok (.iload 5, 2) := by decide +kernel
theorem dX6_where_40 : decode cX6_where 40 = .ok (.aload_n 0, 1) := by decide +kernel
theorem dX6_where_41 : decode cX6_where 41 = .ok (.getfield 7, 3) := by decide +kernel
theorem dX6_where_44 : decode cX6_where 44 = .ok (.bipush 33, 2) := by decide +kernel
theorem dX6_where_46 : decode cX6_where 46 = .ok (.iaload, 1) := by decide +kernel
theorem dX6_where_47 : decode cX6_where 47 = .ok (.if_icmp .ge 59, 3) := by decide +kernel
theorem dX6_where_50 : decode cX6_where 50 = .ok (.aload_n 0, 1) := by decide +kernel
theorem dX6_where_51 : decode cX6_where 51 = .ok (.getfield 7, 3) := by decide +kernel
theorem dX6_where_54 : decode cX6_where 54 = .ok (.bipush 41, 2) := by decide +kernel
theorem dX6_where_56 : decode cX6_where 56 = .ok (.iload 5, 2) := by decide +kernel
theorem dX6_where_58 : decode cX6_where 58 = .ok (.iadd, 1) := by decide +kernel
theorem dX6_where_59 : decode cX6_where 59 = .ok (.iaload, 1) := by decide +kernel
theorem dX6_where_60 : decode cX6_where 60 = .ok (.iload_n 2, 1) := by decide +kernel
theorem dX6_where_61 : decode cX6_where 61 = .ok (.if_icmp .ne 17, 3) := by decide +kernel
theorem dX6_where_64 : decode cX6_where 64 = .ok (.aload_n 0, 1) := by decide +kernel
theorem dX6_where_65 : decode cX6_where 65 = .ok (.aload_n 0, 1) := by decide +kernel
theorem dX6_where_66 : decode cX6_where 66 = .ok (.getfield 7, 3) := by decide +kernel
theorem dX6_where_69 : decode cX6_where 69 = .ok (.iload_n 1, 1) := by decide +kernel
theorem dX6_where_70 : decode cX6_where 70 = .ok (.iload 5, 2) := by decide +kernel
theorem dX6_where_72 : decode cX6_where 72 = .ok (.invokevirtual 64, 3) := by decide +kernel
theorem dX6_where_75 : decode cX6_where 75 = .ok (.goto 4, 3) := by decide +kernel
theorem dX6_where_78 : decode cX6_where 78 = .ok (.iconst 0, 1) := by decide +kernel
theorem dX6_where_79 : decode cX6_where 79 = .ok (.istore 6, 2) := by decide +kernel
theorem dX6_where_81 : decode cX6_where 81 = .ok (.iload 4, 2) := by decide +kernel
theorem dX6_where_83 : decode cX6_where 83 = .ok (.iload 6, 2) := by decide +kernel
theorem dX6_where_85 : decode cX6_where 85 = .ok (.iload_n 3, 1) := by decide +kernel
theorem dX6_where_86 : decode cX6_where 86 = .ok (.if_icmp .ne 10, 3) := by decide +kernel
theorem dX6_where_89 : decode cX6_where 89 = .ok (.iconst 1, 1) := by decide +kernel
theorem dX6_where_90 : decode cX6_where 90 = .ok (.iload 5, 2) := by decide +kernel
theorem dX6_where_92 : decode cX6_where 92 = .ok (.ishl, 1) := by decide +kernel
theorem dX6_where_93 : decode cX6_where 93 = .ok (.goto 4, 3) := by decide +kernel
theorem dX6_where_96 : decode cX6_where 96 = .ok (.iconst 0, 1) := by decide +kernel
theorem dX6_where_97 : decode cX6_where 97 = .ok (.ior, 1) := by decide +kernel
theorem dX6_where_98 : decode cX6_where 98 = .ok (.istore 4, 2) := by decide +kernel
theorem dX6_where_100 : decode cX6_where 100 = .ok (.iinc 5 1, 3) := by decide +kernel
theorem dX6_where_103 : decode cX6_where 103 = .ok (.goto (-65), 3) := by decide +kernel
theorem dX6_where_106 : decode cX6_where 106 = .ok (.iload 4, 2) := by decide +kernel
theorem dX6_where_108 : decode cX6_where 108 = .ok (.ireturn, 1) := by decide +kernel
theorem dX6_note_0 : decode cX6_note 0 = .ok (.aload_n 0, 1) := by decide +kernel
theorem dX6_note_1 : decode cX6_note 1 = .ok (.iload_n 1, 1) := by decide +kernel
theorem dX6_note_2 : decode cX6_note 2 = .ok (.invokevirtual 197, 3) := by decide +kernel
theorem dX6_note_5 : decode cX6_note 5 = .ok (.ifCond .eq 53, 3) := by decide +kernel
theorem dX6_note_8 : decode cX6_note 8 = .ok (.iload_n 2, 1) := by decide +kernel
theorem dX6_note_9 : decode cX6_note 9 = .ok (.i2l, 1) := by decide +kernel
theorem dX6_note_10 : decode cX6_note 10 = .ok (.lconst 0, 1) := by decide +kernel
theorem dX6_note_11 : decode cX6_note 11 = .ok (.ldc2_w 98, 3) := by decide +kernel
theorem dX6_note_14 : decode cX6_note 14 = .ok (.invokestatic 86, 3) := by decide +kernel
theorem dX6_note_17 : decode cX6_note 17 = .ok (.ifCond .eq 41, 3) := by decide +kernel
theorem dX6_note_20 : decode cX6_note 20 = .ok (.iload_n 3, 1) := by decide +kernel
theorem dX6_note_21 : decode cX6_note 21 = .ok (.i2l, 1) := by decide +kernel
theorem dX6_note_22 : decode cX6_note 22 = .ok (.lconst 0, 1) := by decide +kernel
theorem dX6_note_23 : decode cX6_note 23 = .ok (.ldc2_w 225, 3) := by decide +kernel
theorem dX6_note_26 : decode cX6_note 26 = .ok (.invokestatic 86, 3) := by decide +kernel
theorem dX6_note_29 : decode cX6_note 29 = .ok (.ifCond .eq 29, 3) := by decide +kernel
theorem dX6_note_32 : decode cX6_note 32 = .ok (.iload 4, 2) := by decide +kernel
theorem dX6_note_34 : decode cX6_note 34 = .ok (.i2l, 1) := by decide +kernel
theorem dX6_note_35 : decode cX6_note 35 = .ok (.lconst 0, 1) := by decide +kernel
theorem dX6_note_36 : decode cX6_note 36 = .ok (.ldc2_w 225, 3) := by decide +kernel
theorem dX6_note_39 : decode cX6_note 39 = .ok (.invokestatic 86, 3) := by decide +kernel
theorem dX6_note_42 : decode cX6_note 42 = .ok (.ifCond .eq 16, 3) := by decide +kernel
theorem dX6_note_45 : decode cX6_note 45 = .ok (.iload 5, 2) := by decide +kernel
theorem dX6_note_47 : decode cX6_note 47 = .ok (.i2l, 1) := by decide +kernel
theorem dX6_note_48 : decode cX6_note 48 = .ok (.lconst 0, 1) := by decide +kernel
theorem dX6_note_49 : decode cX6_note 49 = .ok (.ldc2_w 98, 3) := by decide +kernel
theorem dX6_note_52 : decode cX6_note 52 = .ok (.invokestatic 86, 3) := by decide +kernel
theorem dX6_note_55 : decode cX6_note 55 = .ok (.ifCond .ne 8, 3) := by decide +kernel
theorem dX6_note_58 : decode cX6_note 58 = .ok (.aload_n 0, 1) := by decide +kernel
theorem dX6_note_59 : decode cX6_note 59 = .ok (.invokevirtual 100, 3) := by decide +kernel
theorem dX6_note_62 : decode cX6_note 62 = .ok (.ireturn, 1) := by decide +kernel
theorem dX6_note_63 : decode cX6_note 63 = .ok (.aload_n 0, 1) := by decide +kernel
theorem dX6_note_64 : decode cX6_note 64 = .ok (.getfield 7, 3) := by decide +kernel
theorem dX6_note_67 : decode cX6_note 67 = .ok (.bipush 78, 2) := by decide +kernel
theorem dX6_note_69 : decode cX6_note 69 = .ok (.iaload, 1) := by decide +kernel
theorem dX6_note_70 : decode cX6_note 70 = .ok (.bipush 6, 2) := by decide +kernel
theorem dX6_note_72 : decode cX6_note 72 = .ok (.if_icmp .ne 11, 3) := by decide +kernel
theorem dX6_note_75 : decode cX6_note 75 = .ok (.aload_n 0, 1) := by decide +kernel
theorem dX6_note_76 : decode cX6_note 76 = .ok (.iconst 2, 1) := by decide +kernel
theorem dX6_note_77 : decode cX6_note 77 = .ok (.bipush (-4), 2) := by decide +kernel
theorem dX6_note_79 : decode cX6_note 79 = .ok (.invokevirtual 52, 3) := by decide +kernel
theorem dX6_note_82 : decode cX6_note 82 = .ok (.ireturn, 1) := by decide +kernel
theorem dX6_note_83 : decode cX6_note 83 = .ok (.bipush 79, 2) := by decide +kernel
theorem dX6_note_85 : decode cX6_note 85 = .ok (.iconst 5, 1) := by decide +kernel
theorem dX6_note_86 : decode cX6_note 86 = .ok (.aload_n 0, 1) := by decide +kernel
theorem dX6_note_87 : decode cX6_note 87 = .ok (.getfield 7, 3) := by decide +kernel
theorem dX6_note_90 : decode cX6_note 90 = .ok (.bipush 78, 2) := by decide +kernel
theorem dX6_note_92 : decode cX6_note 92 = .ok (.iaload, 1) := by decide +kernel
theorem dX6_note_93 : decode cX6_note 93 = .ok (.imul, 1) := by decide +kernel
theorem dX6_note_94 : decode cX6_note 94 = .ok (.iadd, 1) := by decide +kernel
theorem dX6_note_95 : decode cX6_note 95 = .ok (.istore 6, 2) := by decide +kernel
theorem dX6_note_97 : decode cX6_note 97 = .ok (.aload_n 0, 1) := by decide +kernel
theorem dX6_note_98 : decode cX6_note 98 = .ok (.getfield 7, 3) := by decide +kernel
theorem dX6_note_101 : decode cX6_note 101 = .ok (.iload 6, 2) := by decide +kernel
theorem dX6_note_103 : decode cX6_note 103 = .ok (.iload_n 1, 1) := by decide +kernel
theorem dX6_note_104 : decode cX6_note 104 = .ok (.iastore, 1) := by decide +kernel
theorem dX6_note_105 : decode cX6_note 105 = .ok (.aload_n 0, 1) := by decide +kernel
theorem dX6_note_106 : decode cX6_note 106 = .ok (.getfield 7, 3) := by decide +kernel
theorem dX6_note_109 : decode cX6_note 109 = .ok (.iload 6, 2) := by decide +kernel
theorem dX6_note_111 : decode cX6_note 111 = .ok (.iconst 1, 1) := by decide +kernel
theorem dX6_note_112 : decode cX6_note 112 = .ok (.iadd, 1) := by decide +kernel
theorem dX6_note_113 : decode cX6_note 113 = .ok (.iload_n 2, 1) := by decide +kernel
theorem dX6_note_114 : decode cX6_note 114 = .ok (.iastore, 1) := by decide +kernel
theorem dX6_note_115 : decode cX6_note 115 = .ok (.aload_n 0, 1) := by decide +kernel
theorem dX6_note_116 : decode cX6_note 116 = .ok (.getfield 7, 3) := by decide +kernel
theorem dX6_note_119 : decode cX6_note 119 = .ok (.iload 6, 2) := by decide +kernel
theorem dX6_note_121 : decode cX6_note 121 = .ok (.iconst 2, 1) := by decide +kernel
theorem dX6_note_122 : decode cX6_note 122 = .ok (.iadd, 1) := by decide +kernel
theorem dX6_note_123 : decode cX6_note 123 = .ok (.iload_n 3, 1) := by decide +kernel
theorem dX6_note_124 : decode cX6_note 124 = .ok (.iastore, 1) := by decide +kernel
theorem dX6_note_125 : decode cX6_note 125 = .ok (.aload_n 0, 1) := by decide +kernel
theorem dX6_note_126 : decode cX6_note 126 = .ok (.getfield 7, 3) := by decide +kernel
theorem dX6_note_129 : decode cX6_note 129 = .ok (.iload 6, 2) := by decide +kernel
theorem dX6_note_131 : decode cX6_note 131 = .ok (.iconst 3, 1) := by decide +kernel
theorem dX6_note_132 : decode cX6_note 132 = .ok (.iadd, 1) := by decide +kernel
theorem dX6_note_133 : decode cX6_note 133 = .ok (.iload 4, 2) := by decide +kernel
theorem dX6_note_135 : decode cX6_note 135 = .ok (.iastore, 1) := by decide +kernel
theorem dX6_note_136 : decode cX6_note 136 = .ok (.aload_n 0, 1) := by decide +kernel
theorem dX6_note_137 : decode cX6_note 137 = .ok (.getfield 7, 3) := by decide +kernel
theorem dX6_note_140 : decode cX6_note 140 = .ok (.iload 6, 2) := by decide +kernel
theorem dX6_note_142 : decode cX6_note 142 = .ok (.iconst 4, 1) := by decide +kernel
theorem dX6_note_143 : decode cX6_note 143 = .ok (.iadd, 1) := by decide +kernel
theorem dX6_note_144 : decode cX6_note 144 = .ok (.iload 5, 2) := by decide +kernel
theorem dX6_note_146 : decode cX6_note 146 = .ok (.iastore, 1) := by decide +kernel
theorem dX6_note_147 : decode cX6_note 147 = .ok (.aload_n 0, 1) := by decide +kernel
theorem dX6_note_148 : decode cX6_note 148 = .ok (.getfield 7, 3) := by decide +kernel
theorem dX6_note_151 : decode cX6_note 151 = .ok (.bipush 78, 2) := by decide +kernel
theorem dX6_note_153 : decode cX6_note 153 = .ok (.dup2, 1) := by decide +kernel
theorem dX6_note_154 : decode cX6_note 154 = .ok (.iaload, 1) := by decide +kernel
theorem dX6_note_155 : decode cX6_note 155 = .ok (.iconst 1, 1) := by decide +kernel
theorem dX6_note_156 : decode cX6_note 156 = .ok (.iadd, 1) := by decide +kernel
theorem dX6_note_157 : decode cX6_note 157 = .ok (.iastore, 1) := by decide +kernel
theorem dX6_note_158 : decode cX6_note 158 = .ok (.aload_n 0, 1) := by decide +kernel
theorem dX6_note_159 : decode cX6_note 159 = .ok (.getfield 7, 3) := by decide +kernel
theorem dX6_note_162 : decode cX6_note 162 = .ok (.bipush 78, 2) := by decide +kernel
theorem dX6_note_164 : decode cX6_note 164 = .ok (.iaload, 1) := by decide +kernel
theorem dX6_note_165 : decode cX6_note 165 = .ok (.ireturn, 1) := by decide +kernel
theorem dX6_mark_0 : decode cX6_mark 0 = .ok (.aload_n 0, 1) := by decide +kernel
theorem dX6_mark_1 : decode cX6_mark 1 = .ok (.iload_n 1, 1) := by decide +kernel
theorem dX6_mark_2 : decode cX6_mark 2 = .ok (.invokevirtual 194, 3) := by decide +kernel
theorem dX6_mark_5 : decode cX6_mark 5 = .ok (.ifCond .eq 40, 3) := by decide +kernel
theorem dX6_mark_8 : decode cX6_mark 8 = .ok (.iload_n 2, 1) := by decide +kernel
theorem dX6_mark_9 : decode cX6_mark 9 = .ok (.i2l, 1) := by decide +kernel
theorem dX6_mark_10 : decode cX6_mark 10 = .ok (.lconst 0, 1) := by decide +kernel
theorem dX6_mark_11 : decode cX6_mark 11 = .ok (.ldc2_w 98, 3) := by decide +kernel
theorem dX6_mark_14 : decode cX6_mark 14 = .ok (.invokestatic 86, 3) := by decide +kernel
theorem dX6_mark_17 : decode cX6_mark 17 = .ok (.ifCond .eq 28, 3) := by decide +kernel
theorem dX6_mark_20 : decode cX6_mark 20 = .ok (.iload_n 3, 1) := by decide +kernel
theorem dX6_mark_21 : decode cX6_mark 21 = .ok (.i2l, 1) := by decide +kernel
theorem dX6_mark_22 : decode cX6_mark 22 = .ok (.lconst 0, 1) := by decide +kernel
theorem dX6_mark_23 : decode cX6_mark 23 = .ok (.ldc2_w 225, 3) := by decide +kernel
theorem dX6_mark_26 : decode cX6_mark 26 = .ok (.invokestatic 86, 3) := by decide +kernel
theorem dX6_mark_29 : decode cX6_mark 29 = .ok (.ifCond .eq 16, 3) := by decide +kernel
theorem dX6_mark_32 : decode cX6_mark 32 = .ok (.iload 4, 2) := by decide +kernel
theorem dX6_mark_34 : decode cX6_mark 34 = .ok (.i2l, 1) := by decide +kernel
theorem dX6_mark_35 : decode cX6_mark 35 = .ok (.lconst 0, 1) := by decide +kernel
theorem dX6_mark_36 : decode cX6_mark 36 = .ok (.ldc2_w 219, 3) := by decide +kernel
theorem dX6_mark_39 : decode cX6_mark 39 = .ok (.invokestatic 86, 3) := by decide +kernel
theorem dX6_mark_42 : decode cX6_mark 42 = .ok (.ifCond .ne 8, 3) := by decide +kernel
theorem dX6_mark_45 : decode cX6_mark 45 = .ok (.aload_n 0, 1) := by decide +kernel
theorem dX6_mark_46 : decode cX6_mark 46 = .ok (.invokevirtual 100, 3) := by decide +kernel
theorem dX6_mark_49 : decode cX6_mark 49 = .ok (.ireturn, 1) := by decide +kernel
theorem dX6_mark_50 : decode cX6_mark 50 = .ok (.aload_n 0, 1) := by decide +kernel
theorem dX6_mark_51 : decode cX6_mark 51 = .ok (.getfield 7, 3) := by decide +kernel
theorem dX6_mark_54 : decode cX6_mark 54 = .ok (.bipush 109, 2) := by decide +kernel
theorem dX6_mark_56 : decode cX6_mark 56 = .ok (.iaload, 1) := by decide +kernel
theorem dX6_mark_57 : decode cX6_mark 57 = .ok (.bipush 6, 2) := by decide +kernel
theorem dX6_mark_59 : decode cX6_mark 59 = .ok (.if_icmp .ne 11, 3) := by decide +kernel
theorem dX6_mark_62 : decode cX6_mark 62 = .ok (.aload_n 0, 1) := by decide +kernel
theorem dX6_mark_63 : decode cX6_mark 63 = .ok (.iconst 2, 1) := by decide +kernel
theorem dX6_mark_64 : decode cX6_mark 64 = .ok (.bipush (-4), 2) := by decide +kernel
theorem dX6_mark_66 : decode cX6_mark 66 = .ok (.invokevirtual 52, 3) := by decide +kernel
theorem dX6_mark_69 : decode cX6_mark 69 = .ok (.ireturn, 1) := by decide +kernel
theorem dX6_mark_70 : decode cX6_mark 70 = .ok (.bipush 110, 2) := by decide +kernel
theorem dX6_mark_72 : decode cX6_mark 72 = .ok (.iconst 4, 1) := by decide +kernel
theorem dX6_mark_73 : decode cX6_mark 73 = .ok (.aload_n 0, 1) := by decide +kernel
theorem dX6_mark_74 : decode cX6_mark 74 = .ok (.getfield 7, 3) := by decide +kernel
theorem dX6_mark_77 : decode cX6_mark 77 = .ok (.bipush 109, 2) := by decide +kernel
theorem dX6_mark_79 : decode cX6_mark 79 = .ok (.iaload, 1) := by decide +kernel
theorem dX6_mark_80 : decode cX6_mark 80 = .ok (.imul, 1) := by decide +kernel
theorem dX6_mark_81 : decode cX6_mark 81 = .ok (.iadd, 1) := by decide +kernel
theorem dX6_mark_82 : decode cX6_mark 82 = .ok (.istore 5, 2) := by decide +kernel
theorem dX6_mark_84 : decode cX6_mark 84 = .ok (.aload_n 0, 1) := by decide +kernel
theorem dX6_mark_85 : decode cX6_mark 85 = .ok (.getfield 7, 3) := by decide +kernel
theorem dX6_mark_88 : decode cX6_mark 88 = .ok (.iload 5, 2) := by decide +kernel
theorem dX6_mark_90 : decode cX6_mark 90 = .ok (.iload_n 1, 1) := by decide +kernel
theorem dX6_mark_91 : decode cX6_mark 91 = .ok (.iastore, 1) := by decide +kernel
theorem dX6_mark_92 : decode cX6_mark 92 = .ok (.aload_n 0, 1) := by decide +kernel
theorem dX6_mark_93 : decode cX6_mark 93 = .ok (.getfield 7, 3) := by decide +kernel
theorem dX6_mark_96 : decode cX6_mark 96 = .ok (.iload 5, 2) := by decide +kernel
theorem dX6_mark_98 : decode cX6_mark 98 = .ok (.iconst 1, 1) := by decide +kernel
theorem dX6_mark_99 : decode cX6_mark 99 = .ok (.iadd, 1) := by decide +kernel
theorem dX6_mark_100 : decode cX6_mark 100 = .ok (.iload_n 2, 1) := by decide +kernel
theorem dX6_mark_101 : decode cX6_mark 101 = .ok (.iastore, 1) := by decide +kernel
theorem dX6_mark_102 : decode cX6_mark 102 = .ok (.aload_n 0, 1) := by decide +kernel
theorem dX6_mark_103 : decode cX6_mark 103 = .ok (.getfield 7, 3) := by decide +kernel
theorem dX6_mark_106 : decode cX6_mark 106 = .ok (.iload 5, 2) := by decide +kernel
theorem dX6_mark_108 : decode cX6_mark 108 = .ok (.iconst 2, 1) := by decide +kernel
theorem dX6_mark_109 : decode cX6_mark 109 = .ok (.iadd, 1) := by decide +kernel
theorem dX6_mark_110 : decode cX6_mark 110 = .ok (.iload_n 3, 1) := by decide +kernel
theorem dX6_mark_111 : decode cX6_mark 111 = .ok (.iastore, 1) := by decide +kernel
theorem dX6_mark_112 : decode cX6_mark 112 = .ok (.aload_n 0, 1) := by decide +kernel
theorem dX6_mark_113 : decode cX6_mark 113 = .ok (.getfield 7, 3) := by decide +kernel
theorem dX6_mark_116 : decode cX6_mark 116 = .ok (.iload 5, 2) := by decide +kernel
theorem dX6_mark_118 : decode cX6_mark 118 = .ok (.iconst 3, 1) := by decide +kernel
theorem dX6_mark_119 : decode cX6_mark 119 = .ok (.iadd, 1) := by decide +kernel
theorem dX6_mark_120 : decode cX6_mark 120 = .ok (.iload 4, 2) := by decide +kernel
theorem dX6_mark_122 : decode cX6_mark 122 = .ok (.iastore, 1) := by decide +kernel
theorem dX6_mark_123 : decode cX6_mark 123 = .ok (.aload_n 0, 1) := by decide +kernel
theorem dX6_mark_124 : decode cX6_mark 124 = .ok (.getfield 7, 3) := by decide +kernel
theorem dX6_mark_127 : decode cX6_mark 127 = .ok (.bipush 109, 2) := by decide +kernel
theorem dX6_mark_129 : decode cX6_mark 129 = .ok (.dup2, 1) := by decide +kernel
theorem dX6_mark_130 : decode cX6_mark 130 = .ok (.iaload, 1) := by decide +kernel
theorem dX6_mark_131 : decode cX6_mark 131 = .ok (.iconst 1, 1) := by decide +kernel
theorem dX6_mark_132 : decode cX6_mark 132 = .ok (.iadd, 1) := by decide +kernel
theorem dX6_mark_133 : decode cX6_mark 133 = .ok (.iastore, 1) := by decide +kernel
theorem dX6_mark_134 : decode cX6_mark 134 = .ok (.aload_n 0, 1) := by decide +kernel
theorem dX6_mark_135 : decode cX6_mark 135 = .ok (.getfield 7, 3) := by decide +kernel
theorem dX6_mark_138 : decode cX6_mark 138 = .ok (.bipush 109, 2) := by decide +kernel
theorem dX6_mark_140 : decode cX6_mark 140 = .ok (.iaload, 1) := by decide +kernel
theorem dX6_mark_141 : decode cX6_mark 141 = .ok (.ireturn, 1) := by decide +kernel
theorem dX6_forget_0 : decode cX6_forget 0 = .ok (.iload_n 1, 1) := by decide +kernel
theorem dX6_forget_1 : decode cX6_forget 1 = .ok (.i2l, 1) := by decide +kernel
theorem dX6_forget_2 : decode cX6_forget 2 = .ok (.lconst 0, 1) := by decide +kernel
theorem dX6_forget_3 : decode cX6_forget 3 = .ok (.ldc2_w 254, 3) := by decide +kernel
theorem dX6_forget_6 : decode cX6_forget 6 = .ok (.invokestatic 86, 3) := by decide +kernel
theorem dX6_forget_9 : decode cX6_forget 9 = .ok (.ifCond .ne 8, 3) := by decide +kernel
theorem dX6_forget_12 : decode cX6_forget 12 = .ok (.aload_n 0, 1) := by decide +kernel
theorem dX6_forget_13 : decode cX6_forget 13 = .ok (.invokevirtual 100, 3) := by decide +kernel
theorem dX6_forget_16 : decode cX6_forget 16 = .ok (.ireturn, 1) := by decide +kernel
theorem dX6_forget_17 : decode cX6_forget 17 = .ok (.iload_n 1, 1) := by decide +kernel
theorem dX6_forget_18 : decode cX6_forget 18 = .ok (.ifCond .ne 8, 3) := by decide +kernel
theorem dX6_forget_21 : decode cX6_forget 21 = .ok (.bipush 59, 2) := by decide +kernel
theorem dX6_forget_23 : decode cX6_forget 23 = .ok (.goto 15, 3) := by decide +kernel
theorem dX6_forget_26 : decode cX6_forget 26 = .ok (.iload_n 1, 1) := by decide +kernel
theorem dX6_forget_27 : decode cX6_forget 27 = .ok (.iconst 1, 1) := by decide +kernel
theorem dX6_forget_28 : decode cX6_forget 28 = .ok (.if_icmp .ne 8, 3) := by decide +kernel
theorem dX6_forget_31 : decode cX6_forget 31 = .ok (.bipush 78, 2) := by decide +kernel
theorem dX6_forget_33 : decode cX6_forget 33 = .ok (.goto 5, 3) := by decide +kernel
theorem dX6_forget_36 : decode cX6_forget 36 = .ok (.bipush 109, 2) := by decide +kernel
theorem dX6_forget_38 : decode cX6_forget 38 = .ok (.istore_n 2, 1) := by decide +kernel
theorem dX6_forget_39 : decode cX6_forget 39 = .ok (.aload_n 0, 1) := by decide +kernel
theorem dX6_forget_40 : decode cX6_forget 40 = .ok (.getfield 7, 3) := by decide +kernel
theorem dX6_forget_43 : decode cX6_forget 43 = .ok (.iload_n 2, 1) := by decide +kernel
theorem dX6_forget_44 : decode cX6_forget 44 = .ok (.iaload, 1) := by decide +kernel
theorem dX6_forget_45 : decode cX6_forget 45 = .ok (.istore_n 3, 1) := by decide +kernel
theorem dX6_forget_46 : decode cX6_forget 46 = .ok (.aload_n 0, 1) := by decide +kernel
theorem dX6_forget_47 : decode cX6_forget 47 = .ok (.getfield 7, 3) := by decide +kernel
theorem dX6_forget_50 : decode cX6_forget 50 = .ok (.iload_n 2, 1) := by decide +kernel
theorem dX6_forget_51 : decode cX6_forget 51 = .ok (.iconst 0, 1) := by decide +kernel
theorem dX6_forget_52 : decode cX6_forget 52 = .ok (.iastore, 1) := by decide +kernel
theorem dX6_forget_53 : decode cX6_forget 53 = .ok (.iload_n 3, 1) := by decide +kernel
theorem dX6_forget_54 : decode cX6_forget 54 = .ok (.ireturn, 1) := by decide +kernel
theorem dX6_kindsOf_0 : decode cX6_kindsOf 0 = .ok (.iconst 0, 1) := by decide +kernel
theorem dX6_kindsOf_1 : decode cX6_kindsOf 1 = .ok (.istore_n 2, 1) := by decide +kernel
theorem dX6_kindsOf_2 : decode cX6_kindsOf 2 = .ok (.iconst 0, 1) := by decide +kernel
theorem dX6_kindsOf_3 : decode cX6_kindsOf 3 = .ok (.istore_n 3, 1) := by decide +kernel
theorem dX6_kindsOf_4 : decode cX6_kindsOf 4 = .ok (.iload_n 3, 1) := by decide +kernel
theorem dX6_kindsOf_5 : decode cX6_kindsOf 5 = .ok (.bipush 6, 2) := by decide +kernel
theorem dX6_kindsOf_7 : decode cX6_kindsOf 7 = .ok (.if_icmp .ge 120, 3) := by decide +kernel
theorem dX6_kindsOf_10 : decode cX6_kindsOf 10 = .ok (.iconst 1, 1) := by decide +kernel
theorem dX6_kindsOf_11 : decode cX6_kindsOf 11 = .ok (.istore 4, 2) := by decide +kernel
theorem dX6_kindsOf_13 : decode cX6_kindsOf 13 = .ok (.bipush 79, 2) := by decide +kernel
theorem dX6_kindsOf_15 : decode cX6_kindsOf 15 = .ok (.istore 5, 2) := by decide +kernel
theorem dX6_kindsOf_17 : decode cX6_kindsOf 17 = .ok (.iload 5, 2) := by decide +kernel
theorem dX6_kindsOf_19 : decode cX6_kindsOf 19 = .ok (.bipush 79, 2) := by decide +kernel
theorem dX6_kindsOf_21 : decode cX6_kindsOf 21 = .ok (.iconst 5, 1) := by decide +kernel
theorem dX6_kindsOf_22 : decode cX6_kindsOf 22 = .ok (.aload_n 0, 1) := by decide +kernel
theorem dX6_kindsOf_23 : decode cX6_kindsOf 23 = .ok (.getfield 7, 3) := by decide +kernel
theorem dX6_kindsOf_26 : decode cX6_kindsOf 26 = .ok (.bipush 78, 2) := by decide +kernel
theorem dX6_kindsOf_28 : decode cX6_kindsOf 28 = .ok (.iaload, 1) := by decide +kernel
theorem dX6_kindsOf_29 : decode cX6_kindsOf 29 = .ok (.imul, 1) := by decide +kernel
theorem dX6_kindsOf_30 : decode cX6_kindsOf 30 = .ok (.iadd, 1) := by decide +kernel
theorem dX6_kindsOf_31 : decode cX6_kindsOf 31 = .ok (.if_icmp .ge 75, 3) := by decide +kernel
theorem dX6_kindsOf_34 : decode cX6_kindsOf 34 = .ok (.iload 4, 2) := by decide +kernel
theorem dX6_kindsOf_36 : decode cX6_kindsOf 36 = .ok (.ifCond .eq 61, 3) := by decide +kernel
theorem dX6_kindsOf_39 : decode cX6_kindsOf 39 = .ok (.aload_n 0, 1) := by decide +kernel
theorem dX6_kindsOf_40 : decode cX6_kindsOf 40 = .ok (.getfield 7, 3) := by decide +kernel
theorem dX6_kindsOf_43 : decode cX6_kindsOf 43 = .ok (.iload 5, 2) := by decide +kernel
theorem dX6_kindsOf_45 : decode cX6_kindsOf 45 = .ok (.iaload, 1) := by decide +kernel
theorem dX6_kindsOf_46 : decode cX6_kindsOf 46 = .ok (.iload_n 1, 1) := by decide +kernel
theorem dX6_kindsOf_47 : decode cX6_kindsOf 47 = .ok (.if_icmp .ne 46, 3) := by decide +kernel
theorem dX6_kindsOf_50 : decode cX6_kindsOf 50 = .ok (.iload_n 3, 1) := by decide +kernel
theorem dX6_kindsOf_51 : decode cX6_kindsOf 51 = .ok (.aload_n 0, 1) := by decide +kernel
theorem dX6_kindsOf_52 : decode cX6_kindsOf 52 = .ok (.getfield 7, 3) := by decide +kernel
theorem dX6_kindsOf_55 : decode cX6_kindsOf 55 = .ok (.iload 5, 2) := by decide +kernel
theorem dX6_kindsOf_57 : decode cX6_kindsOf 57 = .ok (.iconst 1, 1) := by decide +kernel
theorem dX6_kindsOf_58 : decode cX6_kindsOf 58 = .ok (.iadd, 1) := by decide +kernel
theorem dX6_kindsOf_59 : decode cX6_kindsOf 59 = .ok (.iaload, 1) := by decide +kernel
theorem dX6_kindsOf_60 : decode cX6_kindsOf 60 = .ok (.aload_n 0, 1) := by decide +kernel
theorem dX6_kindsOf_61 : decode cX6_kindsOf 61 = .ok (.getfield 7, 3) := by decide +kernel
theorem dX6_kindsOf_64 : decode cX6_kindsOf 64 = .ok (.iload 5, 2) := by decide +kernel
theorem dX6_kindsOf_66 : decode cX6_kindsOf 66 = .ok (.iconst 3, 1) := by decide +kernel
theorem dX6_kindsOf_67 : decode cX6_kindsOf 67 = .ok (.iadd, 1) := by decide +kernel
theorem dX6_kindsOf_68 : decode cX6_kindsOf 68 = .ok (.iaload, 1) := by decide +kernel
theorem dX6_kindsOf_69 : decode cX6_kindsOf 69 = .ok (.aload_n 0, 1) := by decide +kernel
theorem dX6_kindsOf_70 : decode cX6_kindsOf 70 = .ok (.getfield 7, 3) := by decide +kernel
theorem dX6_kindsOf_73 : decode cX6_kindsOf 73 = .ok (.iload 5, 2) := by decide +kernel
theorem dX6_kindsOf_75 : decode cX6_kindsOf 75 = .ok (.iconst 2, 1) := by decide +kernel
theorem dX6_kindsOf_76 : decode cX6_kindsOf 76 = .ok (.iadd, 1) := by decide +kernel
theorem dX6_kindsOf_77 : decode cX6_kindsOf 77 = .ok (.iaload, 1) := by decide +kernel
theorem dX6_kindsOf_78 : decode cX6_kindsOf 78 = .ok (.invokestatic 56, 3) := by decide +kernel
theorem dX6_kindsOf_81 : decode cX6_kindsOf 81 = .ok (.aload_n 0, 1) := by decide +kernel
theorem dX6_kindsOf_82 : decode cX6_kindsOf 82 = .ok (.getfield 7, 3) := by decide +kernel
theorem dX6_kindsOf_85 : decode cX6_kindsOf 85 = .ok (.iload 5, 2) := by decide +kernel
theorem dX6_kindsOf_87 : decode cX6_kindsOf 87 = .ok (.iconst 4, 1) := by decide +kernel
theorem dX6_kindsOf_88 : decode cX6_kindsOf 88 = .ok (.iadd, 1) := by decide +kernel
theorem dX6_kindsOf_89 : decode cX6_kindsOf 89 = .ok (.iaload, 1) := by decide +kernel
theorem dX6_kindsOf_90 : decode cX6_kindsOf 90 = .ok (.if_icmp .ne 7, 3) := by decide +kernel
theorem dX6_kindsOf_93 : decode cX6_kindsOf 93 = .ok (.iconst 1, 1) := by decide +kernel
theorem dX6_kindsOf_94 : decode cX6_kindsOf 94 = .ok (.goto 4, 3) := by decide +kernel
theorem dX6_kindsOf_97 : decode cX6_kindsOf 97 = .ok (.iconst 0, 1) := by decide +kernel
theorem dX6_kindsOf_98 : decode cX6_kindsOf 98 = .ok (.istore 4, 2) := by decide +kernel
theorem dX6_kindsOf_100 : decode cX6_kindsOf 100 = .ok (.iinc 5 5, 3) := by decide +kernel
theorem dX6_kindsOf_103 : decode cX6_kindsOf 103 = .ok (.goto (-86), 3) := by decide +kernel
theorem dX6_kindsOf_106 : decode cX6_kindsOf 106 = .ok (.iload_n 2, 1) := by decide +kernel
theorem dX6_kindsOf_107 : decode cX6_kindsOf 107 = .ok (.iload 4, 2) := by decide +kernel
theorem dX6_kindsOf_109 : decode cX6_kindsOf 109 = .ok (.ifCond .eq 9, 3) := by decide +kernel
theorem dX6_kindsOf_112 : decode cX6_kindsOf 112 = .ok (.iconst 1, 1) := by decide +kernel
theorem dX6_kindsOf_113 : decode cX6_kindsOf 113 = .ok (.iload_n 3, 1) := by decide +kernel
theorem dX6_kindsOf_114 : decode cX6_kindsOf 114 = .ok (.ishl, 1) := by decide +kernel
theorem dX6_kindsOf_115 : decode cX6_kindsOf 115 = .ok (.goto 4, 3) := by decide +kernel
theorem dX6_kindsOf_118 : decode cX6_kindsOf 118 = .ok (.iconst 0, 1) := by decide +kernel
theorem dX6_kindsOf_119 : decode cX6_kindsOf 119 = .ok (.ior, 1) := by decide +kernel
theorem dX6_kindsOf_120 : decode cX6_kindsOf 120 = .ok (.istore_n 2, 1) := by decide +kernel
theorem dX6_kindsOf_121 : decode cX6_kindsOf 121 = .ok (.iinc 3 1, 3) := by decide +kernel
theorem dX6_kindsOf_124 : decode cX6_kindsOf 124 = .ok (.goto (-120), 3) := by decide +kernel
theorem dX6_kindsOf_127 : decode cX6_kindsOf 127 = .ok (.iload_n 2, 1) := by decide +kernel
theorem dX6_kindsOf_128 : decode cX6_kindsOf 128 = .ok (.ireturn, 1) := by decide +kernel
theorem dX6_is_0 : decode cX6_is 0 = .ok (.aload_n 0, 1) := by decide +kernel
theorem dX6_is_1 : decode cX6_is 1 = .ok (.iload_n 1, 1) := by decide +kernel
theorem dX6_is_2 : decode cX6_is 2 = .ok (.invokevirtual 197, 3) := by decide +kernel
theorem dX6_is_5 : decode cX6_is 5 = .ok (.ifCond .eq 11, 3) := by decide +kernel
theorem dX6_is_8 : decode cX6_is 8 = .ok (.aload_n 0, 1) := by decide +kernel
theorem dX6_is_9 : decode cX6_is 9 = .ok (.iload_n 1, 1) := by decide +kernel
theorem dX6_is_10 : decode cX6_is 10 = .ok (.invokevirtual 256, 3) := by decide +kernel
theorem dX6_is_13 : decode cX6_is 13 = .ok (.goto 7, 3) := by decide +kernel
theorem dX6_is_16 : decode cX6_is 16 = .ok (.aload_n 0, 1) := by decide +kernel
theorem dX6_is_17 : decode cX6_is 17 = .ok (.invokevirtual 100, 3) := by decide +kernel
theorem dX6_is_20 : decode cX6_is 20 = .ok (.ireturn, 1) := by decide +kernel
theorem dX6_counts_0 : decode cX6_counts 0 = .ok (.aload_n 0, 1) := by decide +kernel
theorem dX6_counts_1 : decode cX6_counts 1 = .ok (.getfield 45, 3) := by decide +kernel
theorem dX6_counts_4 : decode cX6_counts 4 = .ok (.iload_n 1, 1) := by decide +kernel
theorem dX6_counts_5 : decode cX6_counts 5 = .ok (.dup2, 1) := by decide +kernel
theorem dX6_counts_6 : decode cX6_counts 6 = .ok (.iaload, 1) := by decide +kernel
theorem dX6_counts_7 : decode cX6_counts 7 = .ok (.iconst 1, 1) := by decide +kernel
theorem dX6_counts_8 : decode cX6_counts 8 = .ok (.iadd, 1) := by decide +kernel
theorem dX6_counts_9 : decode cX6_counts 9 = .ok (.iastore, 1) := by decide +kernel
theorem dX6_counts_10 : decode cX6_counts 10 = .ok (.aload_n 0, 1) := by decide +kernel
theorem dX6_counts_11 : decode cX6_counts 11 = .ok (.aload_n 0, 1) := by decide +kernel
theorem dX6_counts_12 : decode cX6_counts 12 = .ok (.getfield 45, 3) := by decide +kernel
theorem dX6_counts_15 : decode cX6_counts 15 = .ok (.iload_n 1, 1) := by decide +kernel
theorem dX6_counts_16 : decode cX6_counts 16 = .ok (.iaload, 1) := by decide +kernel
theorem dX6_counts_17 : decode cX6_counts 17 = .ok (.aload_n 0, 1) := by decide +kernel
theorem dX6_counts_18 : decode cX6_counts 18 = .ok (.getfield 259, 3) := by decide +kernel
theorem dX6_counts_21 : decode cX6_counts 21 = .ok (.if_icmp .le 12, 3) := by decide +kernel
theorem dX6_counts_24 : decode cX6_counts 24 = .ok (.aload_n 0, 1) := by decide +kernel
theorem dX6_counts_25 : decode cX6_counts 25 = .ok (.getfield 45, 3) := by decide +kernel
theorem dX6_counts_28 : decode cX6_counts 28 = .ok (.iload_n 1, 1) := by decide +kernel
theorem dX6_counts_29 : decode cX6_counts 29 = .ok (.iaload, 1) := by decide +kernel
theorem dX6_counts_30 : decode cX6_counts 30 = .ok (.goto 7, 3) := by decide +kernel
theorem dX6_counts_33 : decode cX6_counts 33 = .ok (.aload_n 0, 1) := by decide +kernel
theorem dX6_counts_34 : decode cX6_counts 34 = .ok (.getfield 259, 3) := by decide +kernel
theorem dX6_counts_37 : decode cX6_counts 37 = .ok (.putfield 259, 3) := by decide +kernel
theorem dX6_counts_40 : decode cX6_counts 40 = .ok (.return_, 1) := by decide +kernel
theorem dX6_countsNone_0 : decode cX6_countsNone 0 = .ok (.aload_n 0, 1) := by decide +kernel
theorem dX6_countsNone_1 : decode cX6_countsNone 1 = .ok (.iconst 0, 1) := by decide +kernel
theorem dX6_countsNone_2 : decode cX6_countsNone 2 = .ok (.putfield 259, 3) := by decide +kernel
theorem dX6_countsNone_5 : decode cX6_countsNone 5 = .ok (.iconst 0, 1) := by decide +kernel
theorem dX6_countsNone_6 : decode cX6_countsNone 6 = .ok (.istore_n 1, 1) := by decide +kernel
theorem dX6_countsNone_7 : decode cX6_countsNone 7 = .ok (.iload_n 1, 1) := by decide +kernel
theorem dX6_countsNone_8 : decode cX6_countsNone 8 = .ok (.bipush 120, 2) := by decide +kernel
theorem dX6_countsNone_10 : decode cX6_countsNone 10 = .ok (.if_icmp .ge 16, 3) := by decide +kernel
theorem dX6_countsNone_13 : decode cX6_countsNone 13 = .ok (.aload_n 0, 1) := by decide +kernel
theorem dX6_countsNone_14 : decode cX6_countsNone 14 = .ok (.getfield 45, 3) := by decide +kernel
theorem dX6_countsNone_17 : decode cX6_countsNone 17 = .ok (.iload_n 1, 1) := by decide +kernel
theorem dX6_countsNone_18 : decode cX6_countsNone 18 = .ok (.iconst 0, 1) := by decide +kernel
theorem dX6_countsNone_19 : decode cX6_countsNone 19 = .ok (.iastore, 1) := by decide +kernel
theorem dX6_countsNone_20 : decode cX6_countsNone 20 = .ok (.iinc 1 1, 3) := by decide +kernel
theorem dX6_countsNone_23 : decode cX6_countsNone 23 = .ok (.goto (-16), 3) := by decide +kernel
theorem dX6_countsNone_26 : decode cX6_countsNone 26 = .ok (.return_, 1) := by decide +kernel
theorem dX6_look_0 : decode cX6_look 0 = .ok (.aload_n 0, 1) := by decide +kernel
theorem dX6_look_1 : decode cX6_look 1 = .ok (.iload_n 1, 1) := by decide +kernel
theorem dX6_look_2 : decode cX6_look 2 = .ok (.invokevirtual 197, 3) := by decide +kernel
theorem dX6_look_5 : decode cX6_look 5 = .ok (.ifCond .ne 8, 3) := by decide +kernel
theorem dX6_look_8 : decode cX6_look 8 = .ok (.aload_n 0, 1) := by decide +kernel
theorem dX6_look_9 : decode cX6_look 9 = .ok (.invokevirtual 100, 3) := by decide +kernel
theorem dX6_look_12 : decode cX6_look 12 = .ok (.ireturn, 1) := by decide +kernel
theorem dX6_look_13 : decode cX6_look 13 = .ok (.aload_n 0, 1) := by decide +kernel
theorem dX6_look_14 : decode cX6_look 14 = .ok (.iload_n 1, 1) := by decide +kernel
theorem dX6_look_15 : decode cX6_look 15 = .ok (.invokevirtual 256, 3) := by decide +kernel
theorem dX6_look_18 : decode cX6_look 18 = .ok (.istore_n 2, 1) := by decide +kernel
theorem dX6_look_19 : decode cX6_look 19 = .ok (.iconst (-1), 1) := by decide +kernel
theorem dX6_look_20 : decode cX6_look 20 = .ok (.istore_n 3, 1) := by decide +kernel
theorem dX6_look_21 : decode cX6_look 21 = .ok (.ldc 230, 2) := by decide +kernel
theorem dX6_look_23 : decode cX6_look 23 = .ok (.istore 4, 2) := by decide +kernel
theorem dX6_look_25 : decode cX6_look 25 = .ok (.iconst 0, 1) := by decide +kernel
theorem dX6_look_26 : decode cX6_look 26 = .ok (.istore 5, 2) := by decide +kernel
theorem dX6_look_28 : decode cX6_look 28 = .ok (.iload 5, 2) := by decide +kernel
theorem dX6_look_30 : decode cX6_look 30 = .ok (.bipush 21, 2) := by decide +kernel
theorem dX6_look_32 : decode cX6_look 32 = .ok (.if_icmp .ge 121, 3) := by decide +kernel
theorem dX6_look_35 : decode cX6_look 35 = .ok (.iload_n 2, 1) := by decide +kernel
theorem dX6_look_36 : decode cX6_look 36 = .ok (.ifCond .eq 117, 3) := by decide +kernel
theorem dX6_look_39 : decode cX6_look 39 = .ok (.iconst 0, 1) := by decide +kernel
theorem dX6_look_40 : decode cX6_look 40 = .ok (.istore 6, 2) := by decide +kernel
theorem dX6_look_42 : decode cX6_look 42 = .ok (.iload 6, 2) := by decide +kernel
theorem dX6_look_44 : decode cX6_look 44 = .ok (.iconst 2, 1) := by decide +kernel
theorem dX6_look_45 : decode cX6_look 45 = .ok (.if_icmp .ge 102, 3) := by decide +kernel
theorem dX6_look_48 : decode cX6_look 48 = .ok (.aload_n 0, 1) := by decide +kernel
theorem dX6_look_49 : decode cX6_look 49 = .ok (.invokevirtual 262, 3) := by decide +kernel
theorem dX6_look_52 : decode cX6_look 52 = .ok (.iconst 0, 1) := by decide +kernel
theorem dX6_look_53 : decode cX6_look 53 = .ok (.istore 7, 2) := by decide +kernel
theorem dX6_look_55 : decode cX6_look 55 = .ok (.iload 7, 2) := by decide +kernel
theorem dX6_look_57 : decode cX6_look 57 = .ok (.bipush 6, 2) := by decide +kernel
theorem dX6_look_59 : decode cX6_look 59 = .ok (.if_icmp .ge 40, 3) := by decide +kernel
theorem dX6_look_62 : decode cX6_look 62 = .ok (.iload_n 2, 1) := by decide +kernel
theorem dX6_look_63 : decode cX6_look 63 = .ok (.iload 7, 2) := by decide +kernel
theorem dX6_look_65 : decode cX6_look 65 = .ok (.invokestatic 265, 3) := by decide +kernel
theorem dX6_look_68 : decode cX6_look 68 = .ok (.ifCond .eq 25, 3) := by decide +kernel
theorem dX6_look_71 : decode cX6_look 71 = .ok (.aload_n 0, 1) := by decide +kernel
theorem dX6_look_72 : decode cX6_look 72 = .ok (.iload 7, 2) := by decide +kernel
theorem dX6_look_74 : decode cX6_look 74 = .ok (.aload_n 0, 1) := by decide +kernel
theorem dX6_look_75 : decode cX6_look 75 = .ok (.getfield 7, 3) := by decide +kernel
theorem dX6_look_78 : decode cX6_look 78 = .ok (.bipush 25, 2) := by decide +kernel
theorem dX6_look_80 : decode cX6_look 80 = .ok (.iload_n 1, 1) := by decide +kernel
theorem dX6_look_81 : decode cX6_look 81 = .ok (.iadd, 1) := by decide +kernel
theorem dX6_look_82 : decode cX6_look 82 = .ok (.iaload, 1) := by decide +kernel
theorem dX6_look_83 : decode cX6_look 83 = .ok (.iload 5, 2) := by decide +kernel
theorem dX6_look_85 : decode cX6_look 85 = .ok (.iload 6, 2) := by decide +kernel
theorem dX6_look_87 : decode cX6_look 87 = .ok (.invokestatic 56, 3) := by decide +kernel
theorem dX6_look_90 : decode cX6_look 90 = .ok (.invokevirtual 268, 3) := by decide +kernel
theorem dX6_look_93 : decode cX6_look 93 = .ok (.iinc 7 1, 3) := by decide +kernel
theorem dX6_look_96 : decode cX6_look 96 = .ok (.goto (-41), 3) := by decide +kernel
theorem dX6_look_99 : decode cX6_look 99 = .ok (.aload_n 0, 1) := by decide +kernel
theorem dX6_look_100 : decode cX6_look 100 = .ok (.getfield 259, 3) := by decide +kernel
theorem dX6_look_103 : decode cX6_look 103 = .ok (.iload 4, 2) := by decide +kernel
theorem dX6_look_105 : decode cX6_look 105 = .ok (.if_icmp .ge 14, 3) := by decide +kernel
theorem dX6_look_108 : decode cX6_look 108 = .ok (.bipush 100, 2) := by decide +kernel
theorem dX6_look_110 : decode cX6_look 110 = .ok (.iload 5, 2) := by decide +kernel
theorem dX6_look_112 : decode cX6_look 112 = .ok (.imul, 1) := by decide +kernel
theorem dX6_look_113 : decode cX6_look 113 = .ok (.iload 6, 2) := by decide +kernel
theorem dX6_look_115 : decode cX6_look 115 = .ok (.iadd, 1) := by decide +kernel
theorem dX6_look_116 : decode cX6_look 116 = .ok (.goto 4, 3) := by decide +kernel
theorem dX6_look_119 : decode cX6_look 119 = .ok (.iload_n 3, 1) := by decide +kernel
theorem dX6_look_120 : decode cX6_look 120 = .ok (.istore_n 3, 1) := by decide +kernel
theorem dX6_look_121 : decode cX6_look 121 = .ok (.aload_n 0, 1) := by decide +kernel
theorem dX6_look_122 : decode cX6_look 122 = .ok (.getfield 259, 3) := by decide +kernel
theorem dX6_look_125 : decode cX6_look 125 = .ok (.iload 4, 2) := by decide +kernel
theorem dX6_look_127 : decode cX6_look 127 = .ok (.if_icmp .ge 10, 3) := by decide +kernel
theorem dX6_look_130 : decode cX6_look 130 = .ok (.aload_n 0, 1) := by decide +kernel
theorem dX6_look_131 : decode cX6_look 131 = .ok (.getfield 259, 3) := by decide +kernel
theorem dX6_look_134 : decode cX6_look 134 = .ok (.goto 5, 3) := by decide +kernel
theorem dX6_look_137 : decode cX6_look 137 = .ok (.iload 4, 2) := by decide +kernel
theorem dX6_look_139 : decode cX6_look 139 = .ok (.istore 4, 2) := by decide +kernel
theorem dX6_look_141 : decode cX6_look 141 = .ok (.iinc 6 1, 3) := by decide +kernel
theorem dX6_look_144 : decode cX6_look 144 = .ok (.goto (-102), 3) := by decide +kernel
theorem dX6_look_147 : decode cX6_look 147 = .ok (.iinc 5 1, 3) := by decide +kernel
theorem dX6_look_150 : decode cX6_look 150 = .ok (.goto (-122), 3) := by decide +kernel
theorem dX6_look_153 : decode cX6_look 153 = .ok (.iload_n 3, 1) := by decide +kernel
theorem dX6_look_154 : decode cX6_look 154 = .ok (.ireturn, 1) := by decide +kernel
theorem dX6_kindsOfOne_0 : decode cX6_kindsOfOne 0 = .ok (.iconst 0, 1) := by decide +kernel
theorem dX6_kindsOfOne_1 : decode cX6_kindsOfOne 1 = .ok (.istore_n 2, 1) := by decide +kernel
theorem dX6_kindsOfOne_2 : decode cX6_kindsOfOne 2 = .ok (.iconst 0, 1) := by decide +kernel
theorem dX6_kindsOfOne_3 : decode cX6_kindsOfOne 3 = .ok (.istore_n 3, 1) := by decide +kernel
theorem dX6_kindsOfOne_4 : decode cX6_kindsOfOne 4 = .ok (.iload_n 3, 1) := by decide +kernel
theorem dX6_kindsOfOne_5 : decode cX6_kindsOfOne 5 = .ok (.bipush 6, 2) := by decide +kernel
theorem dX6_kindsOfOne_7 : decode cX6_kindsOfOne 7 = .ok (.if_icmp .ge 111, 3) := by decide +kernel
theorem dX6_kindsOfOne_10 : decode cX6_kindsOfOne 10 = .ok (.iconst 1, 1) := by decide +kernel
theorem dX6_kindsOfOne_11 : decode cX6_kindsOfOne 11 = .ok (.istore 4, 2) := by decide +kernel
theorem dX6_kindsOfOne_13 : decode cX6_kindsOfOne 13 = .ok (.bipush 110, 2) := by decide +kernel
theorem dX6_kindsOfOne_15 : decode cX6_kindsOfOne 15 = .ok (.istore 5, 2) := by decide +kernel
theorem dX6_kindsOfOne_17 : decode cX6_kindsOfOne 17 = .ok (.iload 5, 2) := by decide +kernel
theorem dX6_kindsOfOne_19 : decode cX6_kindsOfOne 19 = .ok (.bipush 110, 2) := by decide +kernel
theorem dX6_kindsOfOne_21 : decode cX6_kindsOfOne 21 = .ok (.iconst 4, 1) := by decide +kernel
theorem dX6_kindsOfOne_22 : decode cX6_kindsOfOne 22 = .ok (.aload_n 0, 1) := by decide +kernel
theorem dX6_kindsOfOne_23 : decode cX6_kindsOfOne 23 = .ok (.getfield 7, 3) := by decide +kernel
theorem dX6_kindsOfOne_26 : decode cX6_kindsOfOne 26 = .ok (.bipush 109, 2) := by decide +kernel
theorem dX6_kindsOfOne_28 : decode cX6_kindsOfOne 28 = .ok (.iaload, 1) := by decide +kernel
theorem dX6_kindsOfOne_29 : decode cX6_kindsOfOne 29 = .ok (.imul, 1) := by decide +kernel
theorem dX6_kindsOfOne_30 : decode cX6_kindsOfOne 30 = .ok (.iadd, 1) := by decide +kernel
theorem dX6_kindsOfOne_31 : decode cX6_kindsOfOne 31 = .ok (.if_icmp .ge 66, 3) := by decide +kernel
theorem dX6_kindsOfOne_34 : decode cX6_kindsOfOne 34 = .ok (.iload 4, 2) := by decide +kernel
theorem dX6_kindsOfOne_36 : decode cX6_kindsOfOne 36 = .ok (.ifCond .eq 52, 3) := by decide +kernel
theorem dX6_kindsOfOne_39 : decode cX6_kindsOfOne 39 = .ok (.aload_n 0, 1) := by decide +kernel
theorem dX6_kindsOfOne_40 : decode cX6_kindsOfOne 40 = .ok (.getfield 7, 3) := by decide +kernel
theorem dX6_kindsOfOne_43 : decode cX6_kindsOfOne 43 = .ok (.iload 5, 2) := by decide +kernel
theorem dX6_kindsOfOne_45 : decode cX6_kindsOfOne 45 = .ok (.iaload, 1) := by decide +kernel
theorem dX6_kindsOfOne_46 : decode cX6_kindsOfOne 46 = .ok (.iload_n 1, 1) := by decide +kernel
theorem dX6_kindsOfOne_47 : decode cX6_kindsOfOne 47 = .ok (.if_icmp .ne 37, 3) := by decide +kernel
theorem dX6_kindsOfOne_50 : decode cX6_kindsOfOne 50 = .ok (.iload_n 3, 1) := by decide +kernel
theorem dX6_kindsOfOne_51 : decode cX6_kindsOfOne 51 = .ok (.aload_n 0, 1) := by decide +kernel
theorem dX6_kindsOfOne_52 : decode cX6_kindsOfOne 52 = .ok (.getfield 7, 3) := by decide +kernel
theorem dX6_kindsOfOne_55 : decode cX6_kindsOfOne 55 = .ok (.iload 5, 2) := by decide +kernel
theorem dX6_kindsOfOne_57 : decode cX6_kindsOfOne 57 = .ok (.iconst 1, 1) := by decide +kernel
theorem dX6_kindsOfOne_58 : decode cX6_kindsOfOne 58 = .ok (.iadd, 1) := by decide +kernel
theorem dX6_kindsOfOne_59 : decode cX6_kindsOfOne 59 = .ok (.iaload, 1) := by decide +kernel
theorem dX6_kindsOfOne_60 : decode cX6_kindsOfOne 60 = .ok (.aload_n 0, 1) := by decide +kernel
theorem dX6_kindsOfOne_61 : decode cX6_kindsOfOne 61 = .ok (.getfield 7, 3) := by decide +kernel
theorem dX6_kindsOfOne_64 : decode cX6_kindsOfOne 64 = .ok (.iload 5, 2) := by decide +kernel
theorem dX6_kindsOfOne_66 : decode cX6_kindsOfOne 66 = .ok (.iconst 2, 1) := by decide +kernel
theorem dX6_kindsOfOne_67 : decode cX6_kindsOfOne 67 = .ok (.iadd, 1) := by decide +kernel
theorem dX6_kindsOfOne_68 : decode cX6_kindsOfOne 68 = .ok (.iaload, 1) := by decide +kernel
theorem dX6_kindsOfOne_69 : decode cX6_kindsOfOne 69 = .ok (.invokestatic 60, 3) := by decide +kernel
theorem dX6_kindsOfOne_72 : decode cX6_kindsOfOne 72 = .ok (.aload_n 0, 1) := by decide +kernel
theorem dX6_kindsOfOne_73 : decode cX6_kindsOfOne 73 = .ok (.getfield 7, 3) := by decide +kernel
theorem dX6_kindsOfOne_76 : decode cX6_kindsOfOne 76 = .ok (.iload 5, 2) := by decide +kernel
theorem dX6_kindsOfOne_78 : decode cX6_kindsOfOne 78 = .ok (.iconst 3, 1) := by decide +kernel
theorem dX6_kindsOfOne_79 : decode cX6_kindsOfOne 79 = .ok (.iadd, 1) := by decide +kernel
theorem dX6_kindsOfOne_80 : decode cX6_kindsOfOne 80 = .ok (.iaload, 1) := by decide +kernel
theorem dX6_kindsOfOne_81 : decode cX6_kindsOfOne 81 = .ok (.if_icmp .ne 7, 3) := by decide +kernel
theorem dX6_kindsOfOne_84 : decode cX6_kindsOfOne 84 = .ok (.iconst 1, 1) := by decide +kernel
theorem dX6_kindsOfOne_85 : decode cX6_kindsOfOne 85 = .ok (.goto 4, 3) := by decide +kernel
theorem dX6_kindsOfOne_88 : decode cX6_kindsOfOne 88 = .ok (.iconst 0, 1) := by decide +kernel
theorem dX6_kindsOfOne_89 : decode cX6_kindsOfOne 89 = .ok (.istore 4, 2) := by decide +kernel
theorem dX6_kindsOfOne_91 : decode cX6_kindsOfOne 91 = .ok (.iinc 5 4, 3) := by decide +kernel
theorem dX6_kindsOfOne_94 : decode cX6_kindsOfOne 94 = .ok (.goto (-77), 3) := by decide +kernel
theorem dX6_kindsOfOne_97 : decode cX6_kindsOfOne 97 = .ok (.iload_n 2, 1) := by decide +kernel
theorem dX6_kindsOfOne_98 : decode cX6_kindsOfOne 98 = .ok (.iload 4, 2) := by decide +kernel
theorem dX6_kindsOfOne_100 : decode cX6_kindsOfOne 100 = .ok (.ifCond .eq 9, 3) := by decide +kernel
theorem dX6_kindsOfOne_103 : decode cX6_kindsOfOne 103 = .ok (.iconst 1, 1) := by decide +kernel
theorem dX6_kindsOfOne_104 : decode cX6_kindsOfOne 104 = .ok (.iload_n 3, 1) := by decide +kernel
theorem dX6_kindsOfOne_105 : decode cX6_kindsOfOne 105 = .ok (.ishl, 1) := by decide +kernel
theorem dX6_kindsOfOne_106 : decode cX6_kindsOfOne 106 = .ok (.goto 4, 3) := by decide +kernel
theorem dX6_kindsOfOne_109 : decode cX6_kindsOfOne 109 = .ok (.iconst 0, 1) := by decide +kernel
theorem dX6_kindsOfOne_110 : decode cX6_kindsOfOne 110 = .ok (.ior, 1) := by decide +kernel
theorem dX6_kindsOfOne_111 : decode cX6_kindsOfOne 111 = .ok (.istore_n 2, 1) := by decide +kernel
theorem dX6_kindsOfOne_112 : decode cX6_kindsOfOne 112 = .ok (.iinc 3 1, 3) := by decide +kernel
theorem dX6_kindsOfOne_115 : decode cX6_kindsOfOne 115 = .ok (.goto (-111), 3) := by decide +kernel
theorem dX6_kindsOfOne_118 : decode cX6_kindsOfOne 118 = .ok (.iload_n 2, 1) := by decide +kernel
theorem dX6_kindsOfOne_119 : decode cX6_kindsOfOne 119 = .ok (.ireturn, 1) := by decide +kernel
theorem dX6_what_0 : decode cX6_what 0 = .ok (.aload_n 0, 1) := by decide +kernel
theorem dX6_what_1 : decode cX6_what 1 = .ok (.iload_n 1, 1) := by decide +kernel
theorem dX6_what_2 : decode cX6_what 2 = .ok (.invokevirtual 194, 3) := by decide +kernel
theorem dX6_what_5 : decode cX6_what 5 = .ok (.ifCond .eq 11, 3) := by decide +kernel
theorem dX6_what_8 : decode cX6_what 8 = .ok (.aload_n 0, 1) := by decide +kernel
theorem dX6_what_9 : decode cX6_what 9 = .ok (.iload_n 1, 1) := by decide +kernel
theorem dX6_what_10 : decode cX6_what 10 = .ok (.invokevirtual 271, 3) := by decide +kernel
theorem dX6_what_13 : decode cX6_what 13 = .ok (.goto 7, 3) := by decide +kernel
theorem dX6_what_16 : decode cX6_what 16 = .ok (.aload_n 0, 1) := by decide +kernel
theorem dX6_what_17 : decode cX6_what 17 = .ok (.invokevirtual 100, 3) := by decide +kernel
theorem dX6_what_20 : decode cX6_what 20 = .ok (.ireturn, 1) := by decide +kernel
theorem dX6_tries_0 : decode cX6_tries 0 = .ok (.aload_n 0, 1) := by decide +kernel
theorem dX6_tries_1 : decode cX6_tries 1 = .ok (.iload_n 1, 1) := by decide +kernel
theorem dX6_tries_2 : decode cX6_tries 2 = .ok (.invokevirtual 194, 3) := by decide +kernel
theorem dX6_tries_5 : decode cX6_tries 5 = .ok (.ifCond .ne 8, 3) := by decide +kernel
theorem dX6_tries_8 : decode cX6_tries 8 = .ok (.aload_n 0, 1) := by decide +kernel
theorem dX6_tries_9 : decode cX6_tries 9 = .ok (.invokevirtual 100, 3) := by decide +kernel
theorem dX6_tries_12 : decode cX6_tries 12 = .ok (.ireturn, 1) := by decide +kernel
theorem dX6_tries_13 : decode cX6_tries 13 = .ok (.aload_n 0, 1) := by decide +kernel
theorem dX6_tries_14 : decode cX6_tries 14 = .ok (.iload_n 1, 1) := by decide +kernel
theorem dX6_tries_15 : decode cX6_tries 15 = .ok (.invokevirtual 271, 3) := by decide +kernel
theorem dX6_tries_18 : decode cX6_tries 18 = .ok (.istore_n 2, 1) := by decide +kernel
theorem dX6_tries_19 : decode cX6_tries 19 = .ok (.iconst (-1), 1) := by decide +kernel
theorem dX6_tries_20 : decode cX6_tries 20 = .ok (.istore_n 3, 1) := by decide +kernel
theorem dX6_tries_21 : decode cX6_tries 21 = .ok (.ldc 230, 2) := by decide +kernel
theorem dX6_tries_23 : decode cX6_tries 23 = .ok (.istore 4, 2) := by decide +kernel
theorem dX6_tries_25 : decode cX6_tries 25 = .ok (.iconst 0, 1) := by decide +kernel
theorem dX6_tries_26 : decode cX6_tries 26 = .ok (.istore 5, 2) := by decide +kernel
theorem dX6_tries_28 : decode cX6_tries 28 = .ok (.iload 5, 2) := by decide +kernel
theorem dX6_tries_30 : decode cX6_tries 30 = .ok (.bipush 10, 2) := by decide +kernel
theorem dX6_tries_32 : decode cX6_tries 32 = .ok (.if_icmp .ge 113, 3) := by decide +kernel
theorem dX6_tries_35 : decode cX6_tries 35 = .ok (.iload_n 2, 1) := by decide +kernel
theorem dX6_tries_36 : decode cX6_tries 36 = .ok (.ifCond .eq 109, 3) := by decide +kernel
theorem dX6_tries_39 : decode cX6_tries 39 = .ok (.iconst 0, 1) := by decide +kernel
theorem dX6_tries_40 : decode cX6_tries 40 = .ok (.istore 6, 2) := by decide +kernel
theorem dX6_tries_42 : decode cX6_tries 42 = .ok (.iload 6, 2) := by decide +kernel
theorem dX6_tries_44 : decode cX6_tries 44 = .ok (.bipush 21, 2) := by decide +kernel
theorem dX6_tries_46 : decode cX6_tries 46 = .ok (.if_icmp .ge 93, 3) := by decide +kernel
theorem dX6_tries_49 : decode cX6_tries 49 = .ok (.aload_n 0, 1) := by decide +kernel
theorem dX6_tries_50 : decode cX6_tries 50 = .ok (.invokevirtual 262, 3) := by decide +kernel
theorem dX6_tries_53 : decode cX6_tries 53 = .ok (.iconst 0, 1) := by decide +kernel
theorem dX6_tries_54 : decode cX6_tries 54 = .ok (.istore 7, 2) := by decide +kernel
theorem dX6_tries_56 : decode cX6_tries 56 = .ok (.iload 7, 2) := by decide +kernel
theorem dX6_tries_58 : decode cX6_tries 58 = .ok (.bipush 6, 2) := by decide +kernel
theorem dX6_tries_60 : decode cX6_tries 60 = .ok (.if_icmp .ge 31, 3) := by decide +kernel
theorem dX6_tries_63 : decode cX6_tries 63 = .ok (.iload_n 2, 1) := by decide +kernel
theorem dX6_tries_64 : decode cX6_tries 64 = .ok (.iload 7, 2) := by decide +kernel
theorem dX6_tries_66 : decode cX6_tries 66 = .ok (.invokestatic 265, 3) := by decide +kernel
theorem dX6_tries_69 : decode cX6_tries 69 = .ok (.ifCond .eq 16, 3) := by decide +kernel
theorem dX6_tries_72 : decode cX6_tries 72 = .ok (.aload_n 0, 1) := by decide +kernel
theorem dX6_tries_73 : decode cX6_tries 73 = .ok (.iload 7, 2) := by decide +kernel
theorem dX6_tries_75 : decode cX6_tries 75 = .ok (.iload 5, 2) := by decide +kernel
theorem dX6_tries_77 : decode cX6_tries 77 = .ok (.iload 6, 2) := by decide +kernel
theorem dX6_tries_79 : decode cX6_tries 79 = .ok (.invokestatic 60, 3) := by decide +kernel
theorem dX6_tries_82 : decode cX6_tries 82 = .ok (.invokevirtual 268, 3) := by decide +kernel
theorem dX6_tries_85 : decode cX6_tries 85 = .ok (.iinc 7 1, 3) := by decide +kernel
theorem dX6_tries_88 : decode cX6_tries 88 = .ok (.goto (-32), 3) := by decide +kernel
theorem dX6_tries_91 : decode cX6_tries 91 = .ok (.aload_n 0, 1) := by decide +kernel
theorem dX6_tries_92 : decode cX6_tries 92 = .ok (.getfield 259, 3) := by decide +kernel
theorem dX6_tries_95 : decode cX6_tries 95 = .ok (.iload 4, 2) := by decide +kernel
theorem dX6_tries_97 : decode cX6_tries 97 = .ok (.if_icmp .ge 14, 3) := by decide +kernel
theorem dX6_tries_100 : decode cX6_tries 100 = .ok (.bipush 100, 2) := by decide +kernel
theorem dX6_tries_102 : decode cX6_tries 102 = .ok (.iload 5, 2) := by decide +kernel
theorem dX6_tries_104 : decode cX6_tries 104 = .ok (.imul, 1) := by decide +kernel
theorem dX6_tries_105 : decode cX6_tries 105 = .ok (.iload 6, 2) := by decide +kernel
theorem dX6_tries_107 : decode cX6_tries 107 = .ok (.iadd, 1) := by decide +kernel
theorem dX6_tries_108 : decode cX6_tries 108 = .ok (.goto 4, 3) := by decide +kernel
theorem dX6_tries_111 : decode cX6_tries 111 = .ok (.iload_n 3, 1) := by decide +kernel
theorem dX6_tries_112 : decode cX6_tries 112 = .ok (.istore_n 3, 1) := by decide +kernel
theorem dX6_tries_113 : decode cX6_tries 113 = .ok (.aload_n 0, 1) := by decide +kernel
theorem dX6_tries_114 : decode cX6_tries 114 = .ok (.getfield 259, 3) := by decide +kernel
theorem dX6_tries_117 : decode cX6_tries 117 = .ok (.iload 4, 2) := by decide +kernel
theorem dX6_tries_119 : decode cX6_tries 119 = .ok (.if_icmp .ge 10, 3) := by decide +kernel
theorem dX6_tries_122 : decode cX6_tries 122 = .ok (.aload_n 0, 1) := by decide +kernel
theorem dX6_tries_123 : decode cX6_tries 123 = .ok (.getfield 259, 3) := by decide +kernel
theorem dX6_tries_126 : decode cX6_tries 126 = .ok (.goto 5, 3) := by decide +kernel
theorem dX6_tries_129 : decode cX6_tries 129 = .ok (.iload 4, 2) := by decide +kernel
theorem dX6_tries_131 : decode cX6_tries 131 = .ok (.istore 4, 2) := by decide +kernel
theorem dX6_tries_133 : decode cX6_tries 133 = .ok (.iinc 6 1, 3) := by decide +kernel
theorem dX6_tries_136 : decode cX6_tries 136 = .ok (.goto (-94), 3) := by decide +kernel
theorem dX6_tries_139 : decode cX6_tries 139 = .ok (.iinc 5 1, 3) := by decide +kernel
theorem dX6_tries_142 : decode cX6_tries 142 = .ok (.goto (-114), 3) := by decide +kernel
theorem dX6_tries_145 : decode cX6_tries 145 = .ok (.iload_n 3, 1) := by decide +kernel
theorem dX6_tries_146 : decode cX6_tries 146 = .ok (.ireturn, 1) := by decide +kernel
theorem dX6_stays_0 : decode cX6_stays 0 = .ok (.iload_n 2, 1) := by decide +kernel
theorem dX6_stays_1 : decode cX6_stays 1 = .ok (.iload_n 3, 1) := by decide +kernel
theorem dX6_stays_2 : decode cX6_stays 2 = .ok (.if_icmp .ne 7, 3) := by decide +kernel
theorem dX6_stays_5 : decode cX6_stays 5 = .ok (.iconst 0, 1) := by decide +kernel
theorem dX6_stays_6 : decode cX6_stays 6 = .ok (.goto 13, 3) := by decide +kernel
theorem dX6_stays_9 : decode cX6_stays 9 = .ok (.aload_n 0, 1) := by decide +kernel
theorem dX6_stays_10 : decode cX6_stays 10 = .ok (.aload_n 0, 1) := by decide +kernel
theorem dX6_stays_11 : decode cX6_stays 11 = .ok (.getfield 7, 3) := by decide +kernel
theorem dX6_stays_14 : decode cX6_stays 14 = .ok (.iload_n 1, 1) := by decide +kernel
theorem dX6_stays_15 : decode cX6_stays 15 = .ok (.iload_n 2, 1) := by decide +kernel
theorem dX6_stays_16 : decode cX6_stays 16 = .ok (.invokevirtual 64, 3) := by decide +kernel
theorem dX6_stays_19 : decode cX6_stays 19 = .ok (.istore 4, 2) := by decide +kernel
theorem dX6_stays_21 : decode cX6_stays 21 = .ok (.iconst 1, 1) := by decide +kernel
theorem dX6_stays_22 : decode cX6_stays 22 = .ok (.istore 5, 2) := by decide +kernel
theorem dX6_stays_24 : decode cX6_stays 24 = .ok (.iconst 0, 1) := by decide +kernel
theorem dX6_stays_25 : decode cX6_stays 25 = .ok (.istore 6, 2) := by decide +kernel
theorem dX6_stays_27 : decode cX6_stays 27 = .ok (.iload 6, 2) := by decide +kernel
theorem dX6_stays_29 : decode cX6_stays 29 = .ok (.aload_n 0, 1) := by decide +kernel
theorem dX6_stays_30 : decode cX6_stays 30 = .ok (.getfield 7, 3) := by decide +kernel
theorem dX6_stays_33 : decode cX6_stays 33 = .ok (.bipush 33, 2) := by decide +kernel
theorem dX6_stays_35 : decode cX6_stays 35 = .ok (.iaload, 1) := by decide +kernel
theorem dX6_stays_36 : decode cX6_stays 36 = .ok (.if_icmp .ge 43, 3) := by decide +kernel
theorem dX6_stays_39 : decode cX6_stays 39 = .ok (.iload 5, 2) := by decide +kernel
theorem dX6_stays_41 : decode cX6_stays 41 = .ok (.ifCond .eq 29, 3) := by decide +kernel
theorem dX6_stays_44 : decode cX6_stays 44 = .ok (.iload 6, 2) := by decide +kernel
theorem dX6_stays_46 : decode cX6_stays 46 = .ok (.iload_n 3, 1) := by decide +kernel
theorem dX6_stays_47 : decode cX6_stays 47 = .ok (.if_icmp .eq 19, 3) := by decide +kernel
theorem dX6_stays_50 : decode cX6_stays 50 = .ok (.aload_n 0, 1) := by decide +kernel
theorem dX6_stays_51 : decode cX6_stays 51 = .ok (.aload_n 0, 1) := by decide +kernel
theorem dX6_stays_52 : decode cX6_stays 52 = .ok (.getfield 7, 3) := by decide +kernel
theorem dX6_stays_55 : decode cX6_stays 55 = .ok (.iload_n 1, 1) := by decide +kernel
theorem dX6_stays_56 : decode cX6_stays 56 = .ok (.iload 6, 2) := by decide +kernel
theorem dX6_stays_58 : decode cX6_stays 58 = .ok (.invokevirtual 64, 3) := by decide +kernel
theorem dX6_stays_61 : decode cX6_stays 61 = .ok (.iload 4, 2) := by decide +kernel
theorem dX6_stays_63 : decode cX6_stays 63 = .ok (.if_icmp .gt 7, 3) := by decide +kernel
theorem dX6_stays_66 : decode cX6_stays 66 = .ok (.iconst 1, 1) := by decide +kernel
theorem dX6_stays_67 : decode cX6_stays 67 = .ok (.goto 4, 3) := by decide +kernel
theorem dX6_stays_70 : decode cX6_stays 70 = .ok (.iconst 0, 1) := by decide +kernel
theorem dX6_stays_71 : decode cX6_stays 71 = .ok (.istore 5, 2) := by decide +kernel
theorem dX6_stays_73 : decode cX6_stays 73 = .ok (.iinc 6 1, 3) := by decide +kernel
theorem dX6_stays_76 : decode cX6_stays 76 = .ok (.goto (-49), 3) := by decide +kernel
theorem dX6_stays_79 : decode cX6_stays 79 = .ok (.iload 5, 2) := by decide +kernel
theorem dX6_stays_81 : decode cX6_stays 81 = .ok (.ireturn, 1) := by decide +kernel
theorem dX6_two_0 : decode cX6_two 0 = .ok (.aload_n 0, 1) := by decide +kernel
theorem dX6_two_1 : decode cX6_two 1 = .ok (.iload_n 1, 1) := by decide +kernel
theorem dX6_two_2 : decode cX6_two 2 = .ok (.invokevirtual 194, 3) := by decide +kernel
theorem dX6_two_5 : decode cX6_two 5 = .ok (.ifCond .eq 21, 3) := by decide +kernel
theorem dX6_two_8 : decode cX6_two 8 = .ok (.aload_n 0, 1) := by decide +kernel
theorem dX6_two_9 : decode cX6_two 9 = .ok (.iload_n 2, 1) := by decide +kernel
theorem dX6_two_10 : decode cX6_two 10 = .ok (.invokevirtual 194, 3) := by decide +kernel
theorem dX6_two_13 : decode cX6_two 13 = .ok (.ifCond .eq 13, 3) := by decide +kernel
theorem dX6_two_16 : decode cX6_two 16 = .ok (.iload_n 1, 1) := by decide +kernel
theorem dX6_two_17 : decode cX6_two 17 = .ok (.iload_n 2, 1) := by decide +kernel
theorem dX6_two_18 : decode cX6_two 18 = .ok (.if_icmp .eq 8, 3) := by decide +kernel
theorem dX6_two_21 : decode cX6_two 21 = .ok (.iload_n 3, 1) := by decide +kernel
theorem dX6_two_22 : decode cX6_two 22 = .ok (.iconst (-1), 1) := by decide +kernel
theorem dX6_two_23 : decode cX6_two 23 = .ok (.if_icmp .ge 8, 3) := by decide +kernel
theorem dX6_two_26 : decode cX6_two 26 = .ok (.aload_n 0, 1) := by decide +kernel
theorem dX6_two_27 : decode cX6_two 27 = .ok (.invokevirtual 200, 3) := by decide +kernel
theorem dX6_two_30 : decode cX6_two 30 = .ok (.ireturn, 1) := by decide +kernel
theorem dX6_two_31 : decode cX6_two 31 = .ok (.iconst 0, 1) := by decide +kernel
theorem dX6_two_32 : decode cX6_two 32 = .ok (.istore 4, 2) := by decide +kernel
theorem dX6_two_34 : decode cX6_two 34 = .ok (.bipush (-5), 2) := by decide +kernel
theorem dX6_two_36 : decode cX6_two 36 = .ok (.istore 5, 2) := by decide +kernel
theorem dX6_two_38 : decode cX6_two 38 = .ok (.iconst 0, 1) := by decide +kernel
theorem dX6_two_39 : decode cX6_two 39 = .ok (.istore 6, 2) := by decide +kernel
theorem dX6_two_41 : decode cX6_two 41 = .ok (.iload 6, 2) := by decide +kernel
theorem dX6_two_43 : decode cX6_two 43 = .ok (.aload_n 0, 1) := by decide +kernel
theorem dX6_two_44 : decode cX6_two 44 = .ok (.getfield 7, 3) := by decide +kernel
theorem dX6_two_47 : decode cX6_two 47 = .ok (.bipush 33, 2) := by decide +kernel
theorem dX6_two_49 : decode cX6_two 49 = .ok (.iaload, 1) := by decide +kernel
theorem dX6_two_50 : decode cX6_two 50 = .ok (.if_icmp .ge 78, 3) := by decide +kernel
theorem dX6_two_53 : decode cX6_two 53 = .ok (.iconst 0, 1) := by decide +kernel
theorem dX6_two_54 : decode cX6_two 54 = .ok (.istore 7, 2) := by decide +kernel
theorem dX6_two_56 : decode cX6_two 56 = .ok (.iload 7, 2) := by decide +kernel
theorem dX6_two_58 : decode cX6_two 58 = .ok (.aload_n 0, 1) := by decide +kernel
theorem dX6_two_59 : decode cX6_two 59 = .ok (.getfield 7, 3) := by decide +kernel
theorem dX6_two_62 : decode cX6_two 62 = .ok (.bipush 33, 2) := by decide +kernel
theorem dX6_two_64 : decode cX6_two 64 = .ok (.iaload, 1) := by decide +kernel
theorem dX6_two_65 : decode cX6_two 65 = .ok (.if_icmp .ge 57, 3) := by decide +kernel
theorem dX6_two_68 : decode cX6_two 68 = .ok (.aload_n 0, 1) := by decide +kernel
theorem dX6_two_69 : decode cX6_two 69 = .ok (.iload_n 1, 1) := by decide +kernel
theorem dX6_two_70 : decode cX6_two 70 = .ok (.iload 6, 2) := by decide +kernel
theorem dX6_two_72 : decode cX6_two 72 = .ok (.iload 7, 2) := by decide +kernel
theorem dX6_two_74 : decode cX6_two 74 = .ok (.invokevirtual 274, 3) := by decide +kernel
theorem dX6_two_77 : decode cX6_two 77 = .ok (.ifCond .eq 39, 3) := by decide +kernel
theorem dX6_two_80 : decode cX6_two 80 = .ok (.aload_n 0, 1) := by decide +kernel
theorem dX6_two_81 : decode cX6_two 81 = .ok (.iload_n 2, 1) := by decide +kernel
theorem dX6_two_82 : decode cX6_two 82 = .ok (.iload 7, 2) := by decide +kernel
theorem dX6_two_84 : decode cX6_two 84 = .ok (.iload 6, 2) := by decide +kernel
theorem dX6_two_86 : decode cX6_two 86 = .ok (.invokevirtual 274, 3) := by decide +kernel
theorem dX6_two_89 : decode cX6_two 89 = .ok (.ifCond .eq 27, 3) := by decide +kernel
theorem dX6_two_92 : decode cX6_two 92 = .ok (.iload 4, 2) := by decide +kernel
theorem dX6_two_94 : decode cX6_two 94 = .ok (.iload_n 3, 1) := by decide +kernel
theorem dX6_two_95 : decode cX6_two 95 = .ok (.if_icmp .ne 14, 3) := by decide +kernel
theorem dX6_two_98 : decode cX6_two 98 = .ok (.bipush 7, 2) := by decide +kernel
theorem dX6_two_100 : decode cX6_two 100 = .ok (.iload 6, 2) := by decide +kernel
theorem dX6_two_102 : decode cX6_two 102 = .ok (.imul, 1) := by decide +kernel
theorem dX6_two_103 : decode cX6_two 103 = .ok (.iload 7, 2) := by decide +kernel
theorem dX6_two_105 : decode cX6_two 105 = .ok (.iadd, 1) := by decide +kernel
theorem dX6_two_106 : decode cX6_two 106 = .ok (.goto 5, 3) := by decide +kernel
theorem dX6_two_109 : decode cX6_two 109 = .ok (.iload 5, 2) := by decide +kernel
theorem dX6_two_111 : decode cX6_two 111 = .ok (.istore 5, 2) := by decide +kernel
theorem dX6_two_113 : decode cX6_two 113 = .ok (.iinc 4 1, 3) := by decide +kernel
theorem dX6_two_116 : decode cX6_two 116 = .ok (.iinc 7 1, 3) := by decide +kernel
theorem dX6_two_119 : decode cX6_two 119 = .ok (.goto (-63), 3) := by decide +kernel
theorem dX6_two_122 : decode cX6_two 122 = .ok (.iinc 6 1, 3) := by decide +kernel
theorem dX6_two_125 : decode cX6_two 125 = .ok (.goto (-84), 3) := by decide +kernel
theorem dX6_two_128 : decode cX6_two 128 = .ok (.iload_n 3, 1) := by decide +kernel
theorem dX6_two_129 : decode cX6_two 129 = .ok (.iconst (-1), 1) := by decide +kernel
theorem dX6_two_130 : decode cX6_two 130 = .ok (.if_icmp .ne 8, 3) := by decide +kernel
theorem dX6_two_133 : decode cX6_two 133 = .ok (.iload 4, 2) := by decide +kernel
theorem dX6_two_135 : decode cX6_two 135 = .ok (.goto 5, 3) := by decide +kernel
theorem dX6_two_138 : decode cX6_two 138 = .ok (.iload 5, 2) := by decide +kernel
theorem dX6_two_140 : decode cX6_two 140 = .ok (.ireturn, 1) := by decide +kernel
theorem dX6_fraction_0 : decode cX6_fraction 0 = .ok (.lload_n 1, 1) := by decide +kernel
theorem dX6_fraction_1 : decode cX6_fraction 1 = .ok (.lstore 5, 2) := by decide +kernel
theorem dX6_fraction_3 : decode cX6_fraction 3 = .ok (.lload_n 3, 1) := by decide +kernel
theorem dX6_fraction_4 : decode cX6_fraction 4 = .ok (.lstore 7, 2) := by decide +kernel
theorem dX6_fraction_6 : decode cX6_fraction 6 = .ok (.lload 7, 2) := by decide +kernel
theorem dX6_fraction_8 : decode cX6_fraction 8 = .ok (.lconst 0, 1) := by decide +kernel
theorem dX6_fraction_9 : decode cX6_fraction 9 = .ok (.lcmp, 1) := by decide +kernel
theorem dX6_fraction_10 : decode cX6_fraction 10 = .ok (.ifCond .eq 21, 3) := by decide +kernel
theorem dX6_fraction_13 : decode cX6_fraction 13 = .ok (.lload 5, 2) := by decide +kernel
theorem dX6_fraction_15 : decode cX6_fraction 15 = .ok (.lload 7, 2) := by decide +kernel
theorem dX6_fraction_17 : decode cX6_fraction 17 = .ok (.lrem, 1) := by decide +kernel
theorem dX6_fraction_18 : decode cX6_fraction 18 = .ok (.lstore 9, 2) := by decide +kernel
theorem dX6_fraction_20 : decode cX6_fraction 20 = .ok (.lload 7, 2) := by decide +kernel
theorem dX6_fraction_22 : decode cX6_fraction 22 = .ok (.lstore 5, 2) := by decide +kernel
theorem dX6_fraction_24 : decode cX6_fraction 24 = .ok (.lload 9, 2) := by decide +kernel
theorem dX6_fraction_26 : decode cX6_fraction 26 = .ok (.lstore 7, 2) := by decide +kernel
theorem dX6_fraction_28 : decode cX6_fraction 28 = .ok (.goto (-22), 3) := by decide +kernel
theorem dX6_fraction_31 : decode cX6_fraction 31 = .ok (.aload_n 0, 1) := by decide +kernel
theorem dX6_fraction_32 : decode cX6_fraction 32 = .ok (.lload_n 1, 1) := by decide +kernel
theorem dX6_fraction_33 : decode cX6_fraction 33 = .ok (.lload 5, 2) := by decide +kernel
theorem dX6_fraction_35 : decode cX6_fraction 35 = .ok (.ldiv, 1) := by decide +kernel
theorem dX6_fraction_36 : decode cX6_fraction 36 = .ok (.putfield 278, 3) := by decide +kernel
theorem dX6_fraction_39 : decode cX6_fraction 39 = .ok (.aload_n 0, 1) := by decide +kernel
theorem dX6_fraction_40 : decode cX6_fraction 40 = .ok (.lload_n 3, 1) := by decide +kernel
theorem dX6_fraction_41 : decode cX6_fraction 41 = .ok (.lload 5, 2) := by decide +kernel
theorem dX6_fraction_43 : decode cX6_fraction 43 = .ok (.ldiv, 1) := by decide +kernel
theorem dX6_fraction_44 : decode cX6_fraction 44 = .ok (.putfield 29, 3) := by decide +kernel
theorem dX6_fraction_47 : decode cX6_fraction 47 = .ok (.return_, 1) := by decide +kernel
theorem dX6_left_0 : decode cX6_left 0 = .ok (.iload_n 1, 1) := by decide +kernel
theorem dX6_left_1 : decode cX6_left 1 = .ok (.i2l, 1) := by decide +kernel
theorem dX6_left_2 : decode cX6_left 2 = .ok (.lconst 0, 1) := by decide +kernel
theorem dX6_left_3 : decode cX6_left 3 = .ok (.ldc2_w 92, 3) := by decide +kernel
theorem dX6_left_6 : decode cX6_left 6 = .ok (.invokestatic 86, 3) := by decide +kernel
theorem dX6_left_9 : decode cX6_left 9 = .ok (.ifCond .eq 27, 3) := by decide +kernel
theorem dX6_left_12 : decode cX6_left 12 = .ok (.iload_n 2, 1) := by decide +kernel
theorem dX6_left_13 : decode cX6_left 13 = .ok (.i2l, 1) := by decide +kernel
theorem dX6_left_14 : decode cX6_left 14 = .ok (.lconst 0, 1) := by decide +kernel
theorem dX6_left_15 : decode cX6_left 15 = .ok (.ldc2_w 90, 3) := by decide +kernel
theorem dX6_left_18 : decode cX6_left 18 = .ok (.invokestatic 86, 3) := by decide +kernel
theorem dX6_left_21 : decode cX6_left 21 = .ok (.ifCond .eq 15, 3) := by decide +kernel
theorem dX6_left_24 : decode cX6_left 24 = .ok (.iload_n 3, 1) := by decide +kernel
theorem dX6_left_25 : decode cX6_left 25 = .ok (.i2l, 1) := by decide +kernel
theorem dX6_left_26 : decode cX6_left 26 = .ok (.lconst 0, 1) := by decide +kernel
theorem dX6_left_27 : decode cX6_left 27 = .ok (.ldc2_w 281, 3) := by decide +kernel
theorem dX6_left_30 : decode cX6_left 30 = .ok (.invokestatic 86, 3) := by decide +kernel
theorem dX6_left_33 : decode cX6_left 33 = .ok (.ifCond .ne 8, 3) := by decide +kernel
theorem dX6_left_36 : decode cX6_left 36 = .ok (.aload_n 0, 1) := by decide +kernel
theorem dX6_left_37 : decode cX6_left 37 = .ok (.invokevirtual 100, 3) := by decide +kernel
theorem dX6_left_40 : decode cX6_left 40 = .ok (.ireturn, 1) := by decide +kernel
theorem dX6_left_41 : decode cX6_left 41 = .ok (.lconst 1, 1) := by decide +kernel
theorem dX6_left_42 : decode cX6_left 42 = .ok (.lstore 4, 2) := by decide +kernel
theorem dX6_left_44 : decode cX6_left 44 = .ok (.lconst 1, 1) := by decide +kernel
theorem dX6_left_45 : decode cX6_left 45 = .ok (.lstore 6, 2) := by decide +kernel
theorem dX6_left_47 : decode cX6_left 47 = .ok (.iconst 0, 1) := by decide +kernel
theorem dX6_left_48 : decode cX6_left 48 = .ok (.istore 8, 2) := by decide +kernel
theorem dX6_left_50 : decode cX6_left 50 = .ok (.iload 8, 2) := by decide +kernel
theorem dX6_left_52 : decode cX6_left 52 = .ok (.iload_n 2, 1) := by decide +kernel
theorem dX6_left_53 : decode cX6_left 53 = .ok (.if_icmp .ge 27, 3) := by decide +kernel
theorem dX6_left_56 : decode cX6_left 56 = .ok (.lload 4, 2) := by decide +kernel
theorem dX6_left_58 : decode cX6_left 58 = .ok (.bipush 10, 2) := by decide +kernel
theorem dX6_left_60 : decode cX6_left 60 = .ok (.iload_n 3, 1) := by decide +kernel
theorem dX6_left_61 : decode cX6_left 61 = .ok (.isub, 1) := by decide +kernel
theorem dX6_left_62 : decode cX6_left 62 = .ok (.i2l, 1) := by decide +kernel
theorem dX6_left_63 : decode cX6_left 63 = .ok (.lmul, 1) := by decide +kernel
theorem dX6_left_64 : decode cX6_left 64 = .ok (.lstore 4, 2) := by decide +kernel
theorem dX6_left_66 : decode cX6_left 66 = .ok (.lload 6, 2) := by decide +kernel
theorem dX6_left_68 : decode cX6_left 68 = .ok (.ldc2_w 281, 3) := by decide +kernel
theorem dX6_left_71 : decode cX6_left 71 = .ok (.lmul, 1) := by decide +kernel
theorem dX6_left_72 : decode cX6_left 72 = .ok (.lstore 6, 2) := by decide +kernel
theorem dX6_left_74 : decode cX6_left 74 = .ok (.iinc 8 1, 3) := by decide +kernel
theorem dX6_left_77 : decode cX6_left 77 = .ok (.goto (-27), 3) := by decide +kernel
theorem dX6_left_80 : decode cX6_left 80 = .ok (.lconst 0, 1) := by decide +kernel
theorem dX6_left_81 : decode cX6_left 81 = .ok (.lstore 8, 2) := by decide +kernel
theorem dX6_left_83 : decode cX6_left 83 = .ok (.lconst 1, 1) := by decide +kernel
theorem dX6_left_84 : decode cX6_left 84 = .ok (.lstore 10, 2) := by decide +kernel
theorem dX6_left_86 : decode cX6_left 86 = .ok (.iconst 0, 1) := by decide +kernel
theorem dX6_left_87 : decode cX6_left 87 = .ok (.istore 12, 2) := by decide +kernel
theorem dX6_left_89 : decode cX6_left 89 = .ok (.iload 12, 2) := by decide +kernel
theorem dX6_left_91 : decode cX6_left 91 = .ok (.aload_n 0, 1) := by decide +kernel
theorem dX6_left_92 : decode cX6_left 92 = .ok (.getfield 7, 3) := by decide +kernel
theorem dX6_left_95 : decode cX6_left 95 = .ok (.bipush 48, 2) := by decide +kernel
theorem dX6_left_97 : decode cX6_left 97 = .ok (.iaload, 1) := by decide +kernel
theorem dX6_left_98 : decode cX6_left 98 = .ok (.if_icmp .ge 16, 3) := by decide +kernel
theorem dX6_left_101 : decode cX6_left 101 = .ok (.lload 10, 2) := by decide +kernel
theorem dX6_left_103 : decode cX6_left 103 = .ok (.lload 6, 2) := by decide +kernel
theorem dX6_left_105 : decode cX6_left 105 = .ok (.lmul, 1) := by decide +kernel
theorem dX6_left_106 : decode cX6_left 106 = .ok (.lstore 10, 2) := by decide +kernel
theorem dX6_left_108 : decode cX6_left 108 = .ok (.iinc 12 1, 3) := by decide +kernel
theorem dX6_left_111 : decode cX6_left 111 = .ok (.goto (-22), 3) := by decide +kernel
theorem dX6_left_114 : decode cX6_left 114 = .ok (.iconst 0, 1) := by decide +kernel
theorem dX6_left_115 : decode cX6_left 115 = .ok (.istore 12, 2) := by decide +kernel
theorem dX6_left_117 : decode cX6_left 117 = .ok (.iload 12, 2) := by decide +kernel
theorem dX6_left_119 : decode cX6_left 119 = .ok (.iconst 1, 1) := by decide +kernel
theorem dX6_left_120 : decode cX6_left 120 = .ok (.aload_n 0, 1) := by decide +kernel
theorem dX6_left_121 : decode cX6_left 121 = .ok (.getfield 7, 3) := by decide +kernel
theorem dX6_left_124 : decode cX6_left 124 = .ok (.bipush 48, 2) := by decide +kernel
theorem dX6_left_126 : decode cX6_left 126 = .ok (.iaload, 1) := by decide +kernel
theorem dX6_left_127 : decode cX6_left 127 = .ok (.ishl, 1) := by decide +kernel
theorem dX6_left_128 : decode cX6_left 128 = .ok (.if_icmp .ge 90, 3) := by decide +kernel
theorem dX6_left_131 : decode cX6_left 131 = .ok (.lconst 1, 1) := by decide +kernel
theorem dX6_left_132 : decode cX6_left 132 = .ok (.lstore 13, 2) := by decide +kernel
theorem dX6_left_134 : decode cX6_left 134 = .ok (.iconst 0, 1) := by decide +kernel
theorem dX6_left_135 : decode cX6_left 135 = .ok (.istore 15, 2) := by decide +kernel
theorem dX6_left_137 : decode cX6_left 137 = .ok (.iconst 0, 1) := by decide +kernel
theorem dX6_left_138 : decode cX6_left 138 = .ok (.istore 16, 2) := by decide +kernel
theorem dX6_left_140 : decode cX6_left 140 = .ok (.iload 16, 2) := by decide +kernel
theorem dX6_left_142 : decode cX6_left 142 = .ok (.aload_n 0, 1) := by decide +kernel
theorem dX6_left_143 : decode cX6_left 143 = .ok (.getfield 7, 3) := by decide +kernel
theorem dX6_left_146 : decode cX6_left 146 = .ok (.bipush 48, 2) := by decide +kernel
theorem dX6_left_148 : decode cX6_left 148 = .ok (.iaload, 1) := by decide +kernel
theorem dX6_left_149 : decode cX6_left 149 = .ok (.if_icmp .ge 46, 3) := by decide +kernel
theorem dX6_left_152 : decode cX6_left 152 = .ok (.lload 13, 2) := by decide +kernel
theorem dX6_left_154 : decode cX6_left 154 = .ok (.iload 12, 2) := by decide +kernel
theorem dX6_left_156 : decode cX6_left 156 = .ok (.iload 16, 2) := by decide +kernel
theorem dX6_left_158 : decode cX6_left 158 = .ok (.invokestatic 265, 3) := by decide +kernel
theorem dX6_left_161 : decode cX6_left 161 = .ok (.ifCond .eq 8, 3) := by decide +kernel
theorem dX6_left_164 : decode cX6_left 164 = .ok (.lload 4, 2) := by decide +kernel
theorem dX6_left_166 : decode cX6_left 166 = .ok (.goto 8, 3) := by decide +kernel
theorem dX6_left_169 : decode cX6_left 169 = .ok (.lload 6, 2) := by decide +kernel
theorem dX6_left_171 : decode cX6_left 171 = .ok (.lload 4, 2) := by decide +kernel
theorem dX6_left_173 : decode cX6_left 173 = .ok (.lsub, 1) := by decide +kernel
theorem dX6_left_174 : decode cX6_left 174 = .ok (.lmul, 1) := by decide +kernel
theorem dX6_left_175 : decode cX6_left 175 = .ok (.lstore 13, 2) := by decide +kernel
theorem dX6_left_177 : decode cX6_left 177 = .ok (.iload 15, 2) := by decide +kernel
theorem dX6_left_179 : decode cX6_left 179 = .ok (.iload 12, 2) := by decide +kernel
theorem dX6_left_181 : decode cX6_left 181 = .ok (.iload 16, 2) := by decide +kernel
theorem dX6_left_183 : decode cX6_left 183 = .ok (.ishr, 1) := by decide +kernel
theorem dX6_left_184 : decode cX6_left 184 = .ok (.iconst 1, 1) := by decide +kernel
theorem dX6_left_185 : decode cX6_left 185 = .ok (.iand, 1) := by decide +kernel
theorem dX6_left_186 : decode cX6_left 186 = .ok (.iadd, 1) := by decide +kernel
theorem dX6_left_187 : decode cX6_left 187 = .ok (.istore 15, 2) := by decide +kernel
theorem dX6_left_189 : decode cX6_left 189 = .ok (.iinc 16 1, 3) := by decide +kernel
theorem dX6_left_192 : decode cX6_left 192 = .ok (.goto (-52), 3) := by decide +kernel
theorem dX6_left_195 : decode cX6_left 195 = .ok (.lload 8, 2) := by decide +kernel
theorem dX6_left_197 : decode cX6_left 197 = .ok (.iload 15, 2) := by decide +kernel
theorem dX6_left_199 : decode cX6_left 199 = .ok (.iload_n 1, 1) := by decide +kernel
theorem dX6_left_200 : decode cX6_left 200 = .ok (.if_icmp .lt 8, 3) := by decide +kernel
theorem dX6_left_203 : decode cX6_left 203 = .ok (.lload 13, 2) := by decide +kernel
theorem dX6_left_205 : decode cX6_left 205 = .ok (.goto 4, 3) := by decide +kernel
theorem dX6_left_208 : decode cX6_left 208 = .ok (.lconst 0, 1) := by decide +kernel
theorem dX6_left_209 : decode cX6_left 209 = .ok (.ladd, 1) := by decide +kernel
theorem dX6_left_210 : decode cX6_left 210 = .ok (.lstore 8, 2) := by decide +kernel
theorem dX6_left_212 : decode cX6_left 212 = .ok (.iinc 12 1, 3) := by decide +kernel
theorem dX6_left_215 : decode cX6_left 215 = .ok (.goto (-98), 3) := by decide +kernel
theorem dX6_left_218 : decode cX6_left 218 = .ok (.aload_n 0, 1) := by decide +kernel
theorem dX6_left_219 : decode cX6_left 219 = .ok (.lload 8, 2) := by decide +kernel
theorem dX6_left_221 : decode cX6_left 221 = .ok (.lload 10, 2) := by decide +kernel
theorem dX6_left_223 : decode cX6_left 223 = .ok (.invokevirtual 283, 3) := by decide +kernel
theorem dX6_left_226 : decode cX6_left 226 = .ok (.iconst 1, 1) := by decide +kernel
theorem dX6_left_227 : decode cX6_left 227 = .ok (.ireturn, 1) := by decide +kernel
theorem dX6_years_0 : decode cX6_years 0 = .ok (.iload_n 1, 1) := by decide +kernel
theorem dX6_years_1 : decode cX6_years 1 = .ok (.i2l, 1) := by decide +kernel
theorem dX6_years_2 : decode cX6_years 2 = .ok (.lconst 0, 1) := by decide +kernel
theorem dX6_years_3 : decode cX6_years 3 = .ok (.ldc2_w 287, 3) := by decide +kernel
theorem dX6_years_6 : decode cX6_years 6 = .ok (.invokestatic 86, 3) := by decide +kernel
theorem dX6_years_9 : decode cX6_years 9 = .ok (.ifCond .eq 15, 3) := by decide +kernel
theorem dX6_years_12 : decode cX6_years 12 = .ok (.iload_n 2, 1) := by decide +kernel
theorem dX6_years_13 : decode cX6_years 13 = .ok (.i2l, 1) := by decide +kernel
theorem dX6_years_14 : decode cX6_years 14 = .ok (.lconst 0, 1) := by decide +kernel
theorem dX6_years_15 : decode cX6_years 15 = .ok (.ldc2_w 219, 3) := by decide +kernel
theorem dX6_years_18 : decode cX6_years 18 = .ok (.invokestatic 86, 3) := by decide +kernel
theorem dX6_years_21 : decode cX6_years 21 = .ok (.ifCond .ne 8, 3) := by decide +kernel
theorem dX6_years_24 : decode cX6_years 24 = .ok (.aload_n 0, 1) := by decide +kernel
theorem dX6_years_25 : decode cX6_years 25 = .ok (.invokevirtual 100, 3) := by decide +kernel
theorem dX6_years_28 : decode cX6_years 28 = .ok (.ireturn, 1) := by decide +kernel
theorem dX6_years_29 : decode cX6_years 29 = .ok (.aload_n 0, 1) := by decide +kernel
theorem dX6_years_30 : decode cX6_years 30 = .ok (.invokevirtual 216, 3) := by decide +kernel
theorem dX6_years_33 : decode cX6_years 33 = .ok (.iload_n 1, 1) := by decide +kernel
theorem dX6_years_34 : decode cX6_years 34 = .ok (.i2l, 1) := by decide +kernel
theorem dX6_years_35 : decode cX6_years 35 = .ok (.lstore_n 3, 1) := by decide +kernel
theorem dX6_years_36 : decode cX6_years 36 = .ok (.iconst 0, 1) := by decide +kernel
theorem dX6_years_37 : decode cX6_years 37 = .ok (.istore 5, 2) := by decide +kernel
theorem dX6_years_39 : decode cX6_years 39 = .ok (.iload 5, 2) := by decide +kernel
theorem dX6_years_41 : decode cX6_years 41 = .ok (.iload_n 2, 1) := by decide +kernel
theorem dX6_years_42 : decode cX6_years 42 = .ok (.if_icmp .ge 91, 3) := by decide +kernel
theorem dX6_years_45 : decode cX6_years 45 = .ok (.lload_n 3, 1) := by decide +kernel
theorem dX6_years_46 : decode cX6_years 46 = .ok (.ldc2_w 289, 3) := by decide +kernel
theorem dX6_years_49 : decode cX6_years 49 = .ok (.lmul, 1) := by decide +kernel
theorem dX6_years_50 : decode cX6_years 50 = .ok (.ldc2_w 291, 3) := by decide +kernel
theorem dX6_years_53 : decode cX6_years 53 = .ok (.ladd, 1) := by decide +kernel
theorem dX6_years_54 : decode cX6_years 54 = .ok (.ldc2_w 293, 3) := by decide +kernel
theorem dX6_years_57 : decode cX6_years 57 = .ok (.lrem, 1) := by decide +kernel
theorem dX6_years_58 : decode cX6_years 58 = .ok (.lstore_n 3, 1) := by decide +kernel
theorem dX6_years_59 : decode cX6_years 59 = .ok (.lload_n 3, 1) := by decide +kernel
theorem dX6_years_60 : decode cX6_years 60 = .ok (.ldc2_w 295, 3) := by decide +kernel
theorem dX6_years_63 : decode cX6_years 63 = .ok (.ldiv, 1) := by decide +kernel
theorem dX6_years_64 : decode cX6_years 64 = .ok (.ldc2_w 92, 3) := by decide +kernel
theorem dX6_years_67 : decode cX6_years 67 = .ok (.lrem, 1) := by decide +kernel
theorem dX6_years_68 : decode cX6_years 68 = .ok (.l2i, 1) := by decide +kernel
theorem dX6_years_69 : decode cX6_years 69 = .ok (.istore 6, 2) := by decide +kernel
theorem dX6_years_71 : decode cX6_years 71 = .ok (.lload_n 3, 1) := by decide +kernel
theorem dX6_years_72 : decode cX6_years 72 = .ok (.ldc2_w 297, 3) := by decide +kernel
theorem dX6_years_75 : decode cX6_years 75 = .ok (.ldiv, 1) := by decide +kernel
theorem dX6_years_76 : decode cX6_years 76 = .ok (.ldc2_w 92, 3) := by decide +kernel
theorem dX6_years_79 : decode cX6_years 79 = .ok (.lrem, 1) := by decide +kernel
theorem dX6_years_80 : decode cX6_years 80 = .ok (.l2i, 1) := by decide +kernel
theorem dX6_years_81 : decode cX6_years 81 = .ok (.istore 7, 2) := by decide +kernel
theorem dX6_years_83 : decode cX6_years 83 = .ok (.aload_n 0, 1) := by decide +kernel
theorem dX6_years_84 : decode cX6_years 84 = .ok (.iload 6, 2) := by decide +kernel
theorem dX6_years_86 : decode cX6_years 86 = .ok (.invokevirtual 194, 3) := by decide +kernel
theorem dX6_years_89 : decode cX6_years 89 = .ok (.ifCond .eq 30, 3) := by decide +kernel
theorem dX6_years_92 : decode cX6_years 92 = .ok (.aload_n 0, 1) := by decide +kernel
theorem dX6_years_93 : decode cX6_years 93 = .ok (.iload 7, 2) := by decide +kernel
theorem dX6_years_95 : decode cX6_years 95 = .ok (.invokevirtual 194, 3) := by decide +kernel
theorem dX6_years_98 : decode cX6_years 98 = .ok (.ifCond .eq 21, 3) := by decide +kernel
theorem dX6_years_101 : decode cX6_years 101 = .ok (.iload 6, 2) := by decide +kernel
theorem dX6_years_103 : decode cX6_years 103 = .ok (.iload 7, 2) := by decide +kernel
theorem dX6_years_105 : decode cX6_years 105 = .ok (.if_icmp .eq 14, 3) := by decide +kernel
theorem dX6_years_108 : decode cX6_years 108 = .ok (.aload_n 0, 1) := by decide +kernel
theorem dX6_years_109 : decode cX6_years 109 = .ok (.getfield 16, 3) := by decide +kernel
theorem dX6_years_112 : decode cX6_years 112 = .ok (.iload 6, 2) := by decide +kernel
theorem dX6_years_114 : decode cX6_years 114 = .ok (.iload 7, 2) := by decide +kernel
theorem dX6_years_116 : decode cX6_years 116 = .ok (.invokestatic 206, 3) := by decide +kernel
theorem dX6_years_119 : decode cX6_years 119 = .ok (.aload_n 0, 1) := by decide +kernel
theorem dX6_years_120 : decode cX6_years 120 = .ok (.aload_n 0, 1) := by decide +kernel
theorem dX6_years_121 : decode cX6_years 121 = .ok (.getfield 16, 3) := by decide +kernel
theorem dX6_years_124 : decode cX6_years 124 = .ok (.invokevirtual 168, 3) := by decide +kernel
theorem dX6_years_127 : decode cX6_years 127 = .ok (.iinc 5 1, 3) := by decide +kernel
theorem dX6_years_130 : decode cX6_years 130 = .ok (.goto (-91), 3) := by decide +kernel
theorem dX6_years_133 : decode cX6_years 133 = .ok (.aload_n 0, 1) := by decide +kernel
theorem dX6_years_134 : decode cX6_years 134 = .ok (.aload_n 0, 1) := by decide +kernel
theorem dX6_years_135 : decode cX6_years 135 = .ok (.getfield 16, 3) := by decide +kernel
theorem dX6_years_138 : decode cX6_years 138 = .ok (.invokevirtual 212, 3) := by decide +kernel
theorem dX6_years_141 : decode cX6_years 141 = .ok (.ireturn, 1) := by decide +kernel
theorem dX6_part_0 : decode cX6_part 0 = .ok (.iload_n 1, 1) := by decide +kernel
theorem dX6_part_1 : decode cX6_part 1 = .ok (.ifCond .ne 10, 3) := by decide +kernel
theorem dX6_part_4 : decode cX6_part 4 = .ok (.aload_n 0, 1) := by decide +kernel
theorem dX6_part_5 : decode cX6_part 5 = .ok (.getfield 278, 3) := by decide +kernel
theorem dX6_part_8 : decode cX6_part 8 = .ok (.goto 20, 3) := by decide +kernel
theorem dX6_part_11 : decode cX6_part 11 = .ok (.iload_n 1, 1) := by decide +kernel
theorem dX6_part_12 : decode cX6_part 12 = .ok (.iconst 1, 1) := by decide +kernel
theorem dX6_part_13 : decode cX6_part 13 = .ok (.if_icmp .ne 10, 3) := by decide +kernel
theorem dX6_part_16 : decode cX6_part 16 = .ok (.aload_n 0, 1) := by decide +kernel
theorem dX6_part_17 : decode cX6_part 17 = .ok (.getfield 29, 3) := by decide +kernel
theorem dX6_part_20 : decode cX6_part 20 = .ok (.goto 8, 3) := by decide +kernel
theorem dX6_part_23 : decode cX6_part 23 = .ok (.aload_n 0, 1) := by decide +kernel
theorem dX6_part_24 : decode cX6_part 24 = .ok (.invokevirtual 100, 3) := by decide +kernel
theorem dX6_part_27 : decode cX6_part 27 = .ok (.i2l, 1) := by decide +kernel
theorem dX6_part_28 : decode cX6_part 28 = .ok (.lreturn, 1) := by decide +kernel
theorem dX6_image_0 : decode cX6_image 0 = .ok (.iload_n 1, 1) := by decide +kernel
theorem dX6_image_1 : decode cX6_image 1 = .ok (.i2l, 1) := by decide +kernel
theorem dX6_image_2 : decode cX6_image 2 = .ok (.lconst 0, 1) := by decide +kernel
theorem dX6_image_3 : decode cX6_image 3 = .ok (.lconst 1, 1) := by decide +kernel
theorem dX6_image_4 : decode cX6_image 4 = .ok (.invokestatic 86, 3) := by decide +kernel
theorem dX6_image_7 : decode cX6_image 7 = .ok (.ifCond .ne 8, 3) := by decide +kernel
theorem dX6_image_10 : decode cX6_image 10 = .ok (.aload_n 0, 1) := by decide +kernel
theorem dX6_image_11 : decode cX6_image 11 = .ok (.invokevirtual 100, 3) := by decide +kernel
theorem dX6_image_14 : decode cX6_image 14 = .ok (.ireturn, 1) := by decide +kernel
theorem dX6_image_15 : decode cX6_image 15 = .ok (.aload_n 0, 1) := by decide +kernel
theorem dX6_image_16 : decode cX6_image 16 = .ok (.getfield 7, 3) := by decide +kernel
theorem dX6_image_19 : decode cX6_image 19 = .ok (.iconst 0, 1) := by decide +kernel
theorem dX6_image_20 : decode cX6_image 20 = .ok (.aload_n 0, 1) := by decide +kernel
theorem dX6_image_21 : decode cX6_image 21 = .ok (.getfield 19, 3) := by decide +kernel
theorem dX6_image_24 : decode cX6_image 24 = .ok (.sipush 399, 3) := by decide +kernel
theorem dX6_image_27 : decode cX6_image 27 = .ok (.iload_n 1, 1) := by decide +kernel
theorem dX6_image_28 : decode cX6_image 28 = .ok (.imul, 1) := by decide +kernel
theorem dX6_image_29 : decode cX6_image 29 = .ok (.sipush 399, 3) := by decide +kernel
theorem dX6_image_32 : decode cX6_image 32 = .ok (.invokestatic 82, 3) := by decide +kernel
theorem dX6_image_35 : decode cX6_image 35 = .ok (.aload_n 0, 1) := by decide +kernel
theorem dX6_image_36 : decode cX6_image 36 = .ok (.getfield 22, 3) := by decide +kernel
theorem dX6_image_39 : decode cX6_image 39 = .ok (.iload_n 1, 1) := by decide +kernel
theorem dX6_image_40 : decode cX6_image 40 = .ok (.iconst 1, 1) := by decide +kernel
theorem dX6_image_41 : decode cX6_image 41 = .ok (.bastore, 1) := by decide +kernel
theorem dX6_image_42 : decode cX6_image 42 = .ok (.iconst 1, 1) := by decide +kernel
theorem dX6_image_43 : decode cX6_image 43 = .ok (.ireturn, 1) := by decide +kernel
theorem dX6_from_0 : decode cX6_from 0 = .ok (.iload_n 1, 1) := by decide +kernel
theorem dX6_from_1 : decode cX6_from 1 = .ok (.i2l, 1) := by decide +kernel
theorem dX6_from_2 : decode cX6_from 2 = .ok (.lconst 0, 1) := by decide +kernel
theorem dX6_from_3 : decode cX6_from 3 = .ok (.lconst 1, 1) := by decide +kernel
theorem dX6_from_4 : decode cX6_from 4 = .ok (.invokestatic 86, 3) := by decide +kernel
theorem dX6_from_7 : decode cX6_from 7 = .ok (.ifCond .ne 8, 3) := by decide +kernel
theorem dX6_from_10 : decode cX6_from 10 = .ok (.aload_n 0, 1) := by decide +kernel
theorem dX6_from_11 : decode cX6_from 11 = .ok (.invokevirtual 100, 3) := by decide +kernel
theorem dX6_from_14 : decode cX6_from 14 = .ok (.ireturn, 1) := by decide +kernel
theorem dX6_from_15 : decode cX6_from 15 = .ok (.aload_n 0, 1) := by decide +kernel
theorem dX6_from_16 : decode cX6_from 16 = .ok (.getfield 22, 3) := by decide +kernel
theorem dX6_from_19 : decode cX6_from 19 = .ok (.iload_n 1, 1) := by decide +kernel
theorem dX6_from_20 : decode cX6_from 20 = .ok (.baload, 1) := by decide +kernel
theorem dX6_from_21 : decode cX6_from 21 = .ok (.ifCond .ne 11, 3) := by decide +kernel
theorem dX6_from_24 : decode cX6_from 24 = .ok (.aload_n 0, 1) := by decide +kernel
theorem dX6_from_25 : decode cX6_from 25 = .ok (.iconst 1, 1) := by decide +kernel
theorem dX6_from_26 : decode cX6_from 26 = .ok (.bipush (-3), 2) := by decide +kernel
theorem dX6_from_28 : decode cX6_from 28 = .ok (.invokevirtual 52, 3) := by decide +kernel
theorem dX6_from_31 : decode cX6_from 31 = .ok (.ireturn, 1) := by decide +kernel
theorem dX6_from_32 : decode cX6_from 32 = .ok (.aload_n 0, 1) := by decide +kernel
theorem dX6_from_33 : decode cX6_from 33 = .ok (.getfield 19, 3) := by decide +kernel
theorem dX6_from_36 : decode cX6_from 36 = .ok (.sipush 399, 3) := by decide +kernel
theorem dX6_from_39 : decode cX6_from 39 = .ok (.iload_n 1, 1) := by decide +kernel
theorem dX6_from_40 : decode cX6_from 40 = .ok (.imul, 1) := by decide +kernel
theorem dX6_from_41 : decode cX6_from 41 = .ok (.aload_n 0, 1) := by decide +kernel
theorem dX6_from_42 : decode cX6_from 42 = .ok (.getfield 7, 3) := by decide +kernel
theorem dX6_from_45 : decode cX6_from 45 = .ok (.iconst 0, 1) := by decide +kernel
theorem dX6_from_46 : decode cX6_from 46 = .ok (.sipush 399, 3) := by decide +kernel
theorem dX6_from_49 : decode cX6_from 49 = .ok (.invokestatic 82, 3) := by decide +kernel
theorem dX6_from_52 : decode cX6_from 52 = .ok (.iconst 1, 1) := by decide +kernel
theorem dX6_from_53 : decode cX6_from 53 = .ok (.ireturn, 1) := by decide +kernel
theorem dX6_status_0 : decode cX6_status 0 = .ok (.iload_n 1, 1) := by decide +kernel
theorem dX6_status_1 : decode cX6_status 1 = .ok (.i2l, 1) := by decide +kernel
theorem dX6_status_2 : decode cX6_status 2 = .ok (.lconst 0, 1) := by decide +kernel
theorem dX6_status_3 : decode cX6_status 3 = .ok (.ldc2_w 254, 3) := by decide +kernel
theorem dX6_status_6 : decode cX6_status 6 = .ok (.invokestatic 86, 3) := by decide +kernel
theorem dX6_status_9 : decode cX6_status 9 = .ok (.ifCond .eq 12, 3) := by decide +kernel
theorem dX6_status_12 : decode cX6_status 12 = .ok (.aload_n 0, 1) := by decide +kernel
theorem dX6_status_13 : decode cX6_status 13 = .ok (.getfield 33, 3) := by decide +kernel
theorem dX6_status_16 : decode cX6_status 16 = .ok (.iload_n 1, 1) := by decide +kernel
theorem dX6_status_17 : decode cX6_status 17 = .ok (.iaload, 1) := by decide +kernel
theorem dX6_status_18 : decode cX6_status 18 = .ok (.goto 9, 3) := by decide +kernel
theorem dX6_status_21 : decode cX6_status 21 = .ok (.aload_n 0, 1) := by decide +kernel
theorem dX6_status_22 : decode cX6_status 22 = .ok (.iconst 0, 1) := by decide +kernel
theorem dX6_status_23 : decode cX6_status 23 = .ok (.iconst (-1), 1) := by decide +kernel
theorem dX6_status_24 : decode cX6_status 24 = .ok (.invokevirtual 52, 3) := by decide +kernel
theorem dX6_status_27 : decode cX6_status 27 = .ok (.ireturn, 1) := by decide +kernel
theorem dX6_sum_0 : decode cX6_sum 0 = .ok (.iconst 0, 1) := by decide +kernel
theorem dX6_sum_1 : decode cX6_sum 1 = .ok (.istore_n 3, 1) := by decide +kernel
theorem dX6_sum_2 : decode cX6_sum 2 = .ok (.iconst 0, 1) := by decide +kernel
theorem dX6_sum_3 : decode cX6_sum 3 = .ok (.istore 4, 2) := by decide +kernel
theorem dX6_sum_5 : decode cX6_sum 5 = .ok (.iload 4, 2) := by decide +kernel
theorem dX6_sum_7 : decode cX6_sum 7 = .ok (.iload_n 2, 1) := by decide +kernel
theorem dX6_sum_8 : decode cX6_sum 8 = .ok (.if_icmp .ge 21, 3) := by decide +kernel
theorem dX6_sum_11 : decode cX6_sum 11 = .ok (.iload_n 3, 1) := by decide +kernel
theorem dX6_sum_12 : decode cX6_sum 12 = .ok (.aload_n 0, 1) := by decide +kernel
theorem dX6_sum_13 : decode cX6_sum 13 = .ok (.getfield 7, 3) := by decide +kernel
theorem dX6_sum_16 : decode cX6_sum 16 = .ok (.iload_n 1, 1) := by decide +kernel
theorem dX6_sum_17 : decode cX6_sum 17 = .ok (.iload 4, 2) := by decide +kernel
theorem dX6_sum_19 : decode cX6_sum 19 = .ok (.iadd, 1) := by decide +kernel
theorem dX6_sum_20 : decode cX6_sum 20 = .ok (.iaload, 1) := by decide +kernel
theorem dX6_sum_21 : decode cX6_sum 21 = .ok (.iadd, 1) := by decide +kernel
theorem dX6_sum_22 : decode cX6_sum 22 = .ok (.istore_n 3, 1) := by decide +kernel
theorem dX6_sum_23 : decode cX6_sum 23 = .ok (.iinc 4 1, 3) := by decide +kernel
theorem dX6_sum_26 : decode cX6_sum 26 = .ok (.goto (-21), 3) := by decide +kernel
theorem dX6_sum_29 : decode cX6_sum 29 = .ok (.iload_n 3, 1) := by decide +kernel
theorem dX6_sum_30 : decode cX6_sum 30 = .ok (.ireturn, 1) := by decide +kernel
theorem dX6_whoSit_0 : decode cX6_whoSit 0 = .ok (.iconst 0, 1) := by decide +kernel
theorem dX6_whoSit_1 : decode cX6_whoSit 1 = .ok (.istore_n 1, 1) := by decide +kernel
theorem dX6_whoSit_2 : decode cX6_whoSit 2 = .ok (.iconst 0, 1) := by decide +kernel
theorem dX6_whoSit_3 : decode cX6_whoSit 3 = .ok (.istore_n 2, 1) := by decide +kernel
theorem dX6_whoSit_4 : decode cX6_whoSit 4 = .ok (.iload_n 2, 1) := by decide +kernel
theorem dX6_whoSit_5 : decode cX6_whoSit 5 = .ok (.aload_n 0, 1) := by decide +kernel
theorem dX6_whoSit_6 : decode cX6_whoSit 6 = .ok (.getfield 7, 3) := by decide +kernel
theorem dX6_whoSit_9 : decode cX6_whoSit 9 = .ok (.bipush 48, 2) := by decide +kernel
theorem dX6_whoSit_11 : decode cX6_whoSit 11 = .ok (.iaload, 1) := by decide +kernel
theorem dX6_whoSit_12 : decode cX6_whoSit 12 = .ok (.if_icmp .ge 31, 3) := by decide +kernel
theorem dX6_whoSit_15 : decode cX6_whoSit 15 = .ok (.iload_n 1, 1) := by decide +kernel
theorem dX6_whoSit_16 : decode cX6_whoSit 16 = .ok (.aload_n 0, 1) := by decide +kernel
theorem dX6_whoSit_17 : decode cX6_whoSit 17 = .ok (.getfield 7, 3) := by decide +kernel
theorem dX6_whoSit_20 : decode cX6_whoSit 20 = .ok (.iconst 0, 1) := by decide +kernel
theorem dX6_whoSit_21 : decode cX6_whoSit 21 = .ok (.iload_n 2, 1) := by decide +kernel
theorem dX6_whoSit_22 : decode cX6_whoSit 22 = .ok (.iadd, 1) := by decide +kernel
theorem dX6_whoSit_23 : decode cX6_whoSit 23 = .ok (.iaload, 1) := by decide +kernel
theorem dX6_whoSit_24 : decode cX6_whoSit 24 = .ok (.iconst (-1), 1) := by decide +kernel
theorem dX6_whoSit_25 : decode cX6_whoSit 25 = .ok (.if_icmp .ne 7, 3) := by decide +kernel
theorem dX6_whoSit_28 : decode cX6_whoSit 28 = .ok (.iconst 0, 1) := by decide +kernel
theorem dX6_whoSit_29 : decode cX6_whoSit 29 = .ok (.goto 6, 3) := by decide +kernel
theorem dX6_whoSit_32 : decode cX6_whoSit 32 = .ok (.iconst 1, 1) := by decide +kernel
theorem dX6_whoSit_33 : decode cX6_whoSit 33 = .ok (.iload_n 2, 1) := by decide +kernel
theorem dX6_whoSit_34 : decode cX6_whoSit 34 = .ok (.ishl, 1) := by decide +kernel
theorem dX6_whoSit_35 : decode cX6_whoSit 35 = .ok (.ior, 1) := by decide +kernel
theorem dX6_whoSit_36 : decode cX6_whoSit 36 = .ok (.istore_n 1, 1) := by decide +kernel
theorem dX6_whoSit_37 : decode cX6_whoSit 37 = .ok (.iinc 2 1, 3) := by decide +kernel
theorem dX6_whoSit_40 : decode cX6_whoSit 40 = .ok (.goto (-36), 3) := by decide +kernel
theorem dX6_whoSit_43 : decode cX6_whoSit 43 = .ok (.iload_n 1, 1) := by decide +kernel
theorem dX6_whoSit_44 : decode cX6_whoSit 44 = .ok (.ireturn, 1) := by decide +kernel
theorem dX6_counted_0 : decode cX6_counted 0 = .ok (.iload_n 1, 1) := by decide +kernel
theorem dX6_counted_1 : decode cX6_counted 1 = .ok (.tableswitch 134 0 9 #[55, 63, 71, 79, 84, 93, 101, 109, 117, 125], 55) := by decide +kernel
theorem dX6_counted_56 : decode cX6_counted 56 = .ok (.aload_n 0, 1) := by decide +kernel
theorem dX6_counted_57 : decode cX6_counted 57 = .ok (.getfield 7, 3) := by decide +kernel
theorem dX6_counted_60 : decode cX6_counted 60 = .ok (.bipush 33, 2) := by decide +kernel
theorem dX6_counted_62 : decode cX6_counted 62 = .ok (.iaload, 1) := by decide +kernel
theorem dX6_counted_63 : decode cX6_counted 63 = .ok (.ireturn, 1) := by decide +kernel
theorem dX6_counted_64 : decode cX6_counted 64 = .ok (.aload_n 0, 1) := by decide +kernel
theorem dX6_counted_65 : decode cX6_counted 65 = .ok (.getfield 7, 3) := by decide +kernel
theorem dX6_counted_68 : decode cX6_counted 68 = .ok (.bipush 48, 2) := by decide +kernel
theorem dX6_counted_70 : decode cX6_counted 70 = .ok (.iaload, 1) := by decide +kernel
theorem dX6_counted_71 : decode cX6_counted 71 = .ok (.ireturn, 1) := by decide +kernel
theorem dX6_counted_72 : decode cX6_counted 72 = .ok (.aload_n 0, 1) := by decide +kernel
theorem dX6_counted_73 : decode cX6_counted 73 = .ok (.getfield 7, 3) := by decide +kernel
theorem dX6_counted_76 : decode cX6_counted 76 = .ok (.bipush 32, 2) := by decide +kernel
theorem dX6_counted_78 : decode cX6_counted 78 = .ok (.iaload, 1) := by decide +kernel
theorem dX6_counted_79 : decode cX6_counted 79 = .ok (.ireturn, 1) := by decide +kernel
theorem dX6_counted_80 : decode cX6_counted 80 = .ok (.aload_n 0, 1) := by decide +kernel
theorem dX6_counted_81 : decode cX6_counted 81 = .ok (.invokevirtual 299, 3) := by decide +kernel
theorem dX6_counted_84 : decode cX6_counted 84 = .ok (.ireturn, 1) := by decide +kernel
theorem dX6_counted_85 : decode cX6_counted 85 = .ok (.aload_n 0, 1) := by decide +kernel
theorem dX6_counted_86 : decode cX6_counted 86 = .ok (.bipush 25, 2) := by decide +kernel
theorem dX6_counted_88 : decode cX6_counted 88 = .ok (.bipush 7, 2) := by decide +kernel
theorem dX6_counted_90 : decode cX6_counted 90 = .ok (.invokevirtual 302, 3) := by decide +kernel
theorem dX6_counted_93 : decode cX6_counted 93 = .ok (.ireturn, 1) := by decide +kernel
theorem dX6_counted_94 : decode cX6_counted 94 = .ok (.aload_n 0, 1) := by decide +kernel
theorem dX6_counted_95 : decode cX6_counted 95 = .ok (.iconst 5, 1) := by decide +kernel
theorem dX6_counted_96 : decode cX6_counted 96 = .ok (.bipush 20, 2) := by decide +kernel
theorem dX6_counted_98 : decode cX6_counted 98 = .ok (.invokevirtual 302, 3) := by decide +kernel
theorem dX6_counted_101 : decode cX6_counted 101 = .ok (.ireturn, 1) := by decide +kernel
theorem dX6_counted_102 : decode cX6_counted 102 = .ok (.aload_n 0, 1) := by decide +kernel
theorem dX6_counted_103 : decode cX6_counted 103 = .ok (.getfield 7, 3) := by decide +kernel
theorem dX6_counted_106 : decode cX6_counted 106 = .ok (.bipush 59, 2) := by decide +kernel
theorem dX6_counted_108 : decode cX6_counted 108 = .ok (.iaload, 1) := by decide +kernel
theorem dX6_counted_109 : decode cX6_counted 109 = .ok (.ireturn, 1) := by decide +kernel
theorem dX6_counted_110 : decode cX6_counted 110 = .ok (.aload_n 0, 1) := by decide +kernel
theorem dX6_counted_111 : decode cX6_counted 111 = .ok (.getfield 7, 3) := by decide +kernel
theorem dX6_counted_114 : decode cX6_counted 114 = .ok (.bipush 78, 2) := by decide +kernel
theorem dX6_counted_116 : decode cX6_counted 116 = .ok (.iaload, 1) := by decide +kernel
theorem dX6_counted_117 : decode cX6_counted 117 = .ok (.ireturn, 1) := by decide +kernel
theorem dX6_counted_118 : decode cX6_counted 118 = .ok (.aload_n 0, 1) := by decide +kernel
theorem dX6_counted_119 : decode cX6_counted 119 = .ok (.getfield 7, 3) := by decide +kernel
theorem dX6_counted_122 : decode cX6_counted 122 = .ok (.bipush 109, 2) := by decide +kernel
theorem dX6_counted_124 : decode cX6_counted 124 = .ok (.iaload, 1) := by decide +kernel
theorem dX6_counted_125 : decode cX6_counted 125 = .ok (.ireturn, 1) := by decide +kernel
theorem dX6_counted_126 : decode cX6_counted 126 = .ok (.aload_n 0, 1) := by decide +kernel
theorem dX6_counted_127 : decode cX6_counted 127 = .ok (.getfield 7, 3) := by decide +kernel
theorem dX6_counted_130 : decode cX6_counted 130 = .ok (.sipush 134, 3) := by decide +kernel
theorem dX6_counted_133 : decode cX6_counted 133 = .ok (.iaload, 1) := by decide +kernel
theorem dX6_counted_134 : decode cX6_counted 134 = .ok (.ireturn, 1) := by decide +kernel
theorem dX6_counted_135 : decode cX6_counted 135 = .ok (.aload_n 0, 1) := by decide +kernel
theorem dX6_counted_136 : decode cX6_counted 136 = .ok (.getfield 108, 3) := by decide +kernel
theorem dX6_counted_139 : decode cX6_counted 139 = .ok (.ireturn, 1) := by decide +kernel
theorem dX6_count_0 : decode cX6_count 0 = .ok (.iload_n 1, 1) := by decide +kernel
theorem dX6_count_1 : decode cX6_count 1 = .ok (.i2l, 1) := by decide +kernel
theorem dX6_count_2 : decode cX6_count 2 = .ok (.lconst 0, 1) := by decide +kernel
theorem dX6_count_3 : decode cX6_count 3 = .ok (.ldc2_w 281, 3) := by decide +kernel
theorem dX6_count_6 : decode cX6_count 6 = .ok (.invokestatic 86, 3) := by decide +kernel
theorem dX6_count_9 : decode cX6_count 9 = .ok (.ifCond .eq 11, 3) := by decide +kernel
theorem dX6_count_12 : decode cX6_count 12 = .ok (.aload_n 0, 1) := by decide +kernel
theorem dX6_count_13 : decode cX6_count 13 = .ok (.iload_n 1, 1) := by decide +kernel
theorem dX6_count_14 : decode cX6_count 14 = .ok (.invokevirtual 305, 3) := by decide +kernel
theorem dX6_count_17 : decode cX6_count 17 = .ok (.goto 7, 3) := by decide +kernel
theorem dX6_count_20 : decode cX6_count 20 = .ok (.aload_n 0, 1) := by decide +kernel
theorem dX6_count_21 : decode cX6_count 21 = .ok (.invokevirtual 100, 3) := by decide +kernel
theorem dX6_count_24 : decode cX6_count 24 = .ok (.ireturn, 1) := by decide +kernel
theorem dX6_digests_0 : decode cX6_digests 0 = .ok (.iconst 0, 1) := by decide +kernel
theorem dX6_digests_1 : decode cX6_digests 1 = .ok (.istore_n 3, 1) := by decide +kernel
theorem dX6_digests_2 : decode cX6_digests 2 = .ok (.iload_n 3, 1) := by decide +kernel
theorem dX6_digests_3 : decode cX6_digests 3 = .ok (.iload_n 2, 1) := by decide +kernel
theorem dX6_digests_4 : decode cX6_digests 4 = .ok (.if_icmp .ge 31, 3) := by decide +kernel
theorem dX6_digests_7 : decode cX6_digests 7 = .ok (.aload_n 0, 1) := by decide +kernel
theorem dX6_digests_8 : decode cX6_digests 8 = .ok (.ldc2_w 308, 3) := by decide +kernel
theorem dX6_digests_11 : decode cX6_digests 11 = .ok (.aload_n 0, 1) := by decide +kernel
theorem dX6_digests_12 : decode cX6_digests 12 = .ok (.getfield 310, 3) := by decide +kernel
theorem dX6_digests_15 : decode cX6_digests 15 = .ok (.lmul, 1) := by decide +kernel
theorem dX6_digests_16 : decode cX6_digests 16 = .ok (.aload_n 0, 1) := by decide +kernel
theorem dX6_digests_17 : decode cX6_digests 17 = .ok (.getfield 7, 3) := by decide +kernel
theorem dX6_digests_20 : decode cX6_digests 20 = .ok (.iload_n 1, 1) := by decide +kernel
theorem dX6_digests_21 : decode cX6_digests 21 = .ok (.iload_n 3, 1) := by decide +kernel
theorem dX6_digests_22 : decode cX6_digests 22 = .ok (.iadd, 1) := by decide +kernel
theorem dX6_digests_23 : decode cX6_digests 23 = .ok (.iaload, 1) := by decide +kernel
theorem dX6_digests_24 : decode cX6_digests 24 = .ok (.i2l, 1) := by decide +kernel
theorem dX6_digests_25 : decode cX6_digests 25 = .ok (.ladd, 1) := by decide +kernel
theorem dX6_digests_26 : decode cX6_digests 26 = .ok (.putfield 310, 3) := by decide +kernel
theorem dX6_digests_29 : decode cX6_digests 29 = .ok (.iinc 3 1, 3) := by decide +kernel
theorem dX6_digests_32 : decode cX6_digests 32 = .ok (.goto (-30), 3) := by decide +kernel
theorem dX6_digests_35 : decode cX6_digests 35 = .ok (.return_, 1) := by decide +kernel
theorem dX6_digest_0 : decode cX6_digest 0 = .ok (.aload_n 0, 1) := by decide +kernel
theorem dX6_digest_1 : decode cX6_digest 1 = .ok (.ldc2_w 313, 3) := by decide +kernel
theorem dX6_digest_4 : decode cX6_digest 4 = .ok (.putfield 310, 3) := by decide +kernel
theorem dX6_digest_7 : decode cX6_digest 7 = .ok (.iconst 0, 1) := by decide +kernel
theorem dX6_digest_8 : decode cX6_digest 8 = .ok (.istore_n 1, 1) := by decide +kernel
theorem dX6_digest_9 : decode cX6_digest 9 = .ok (.iload_n 1, 1) := by decide +kernel
theorem dX6_digest_10 : decode cX6_digest 10 = .ok (.bipush 11, 2) := by decide +kernel
theorem dX6_digest_12 : decode cX6_digest 12 = .ok (.if_icmp .ge 28, 3) := by decide +kernel
theorem dX6_digest_15 : decode cX6_digest 15 = .ok (.aload_n 0, 1) := by decide +kernel
theorem dX6_digest_16 : decode cX6_digest 16 = .ok (.ldc2_w 308, 3) := by decide +kernel
theorem dX6_digest_19 : decode cX6_digest 19 = .ok (.aload_n 0, 1) := by decide +kernel
theorem dX6_digest_20 : decode cX6_digest 20 = .ok (.getfield 310, 3) := by decide +kernel
theorem dX6_digest_23 : decode cX6_digest 23 = .ok (.lmul, 1) := by decide +kernel
theorem dX6_digest_24 : decode cX6_digest 24 = .ok (.aload_n 0, 1) := by decide +kernel
theorem dX6_digest_25 : decode cX6_digest 25 = .ok (.iload_n 1, 1) := by decide +kernel
theorem dX6_digest_26 : decode cX6_digest 26 = .ok (.invokevirtual 305, 3) := by decide +kernel
theorem dX6_digest_29 : decode cX6_digest 29 = .ok (.i2l, 1) := by decide +kernel
theorem dX6_digest_30 : decode cX6_digest 30 = .ok (.ladd, 1) := by decide +kernel
theorem dX6_digest_31 : decode cX6_digest 31 = .ok (.putfield 310, 3) := by decide +kernel
theorem dX6_digest_34 : decode cX6_digest 34 = .ok (.iinc 1 1, 3) := by decide +kernel
theorem dX6_digest_37 : decode cX6_digest 37 = .ok (.goto (-28), 3) := by decide +kernel
theorem dX6_digest_40 : decode cX6_digest 40 = .ok (.iconst 0, 1) := by decide +kernel
theorem dX6_digest_41 : decode cX6_digest 41 = .ok (.istore_n 1, 1) := by decide +kernel
theorem dX6_digest_42 : decode cX6_digest 42 = .ok (.iload_n 1, 1) := by decide +kernel
theorem dX6_digest_43 : decode cX6_digest 43 = .ok (.aload_n 0, 1) := by decide +kernel
theorem dX6_digest_44 : decode cX6_digest 44 = .ok (.getfield 7, 3) := by decide +kernel
theorem dX6_digest_47 : decode cX6_digest 47 = .ok (.bipush 33, 2) := by decide +kernel
theorem dX6_digest_49 : decode cX6_digest 49 = .ok (.iaload, 1) := by decide +kernel
theorem dX6_digest_50 : decode cX6_digest 50 = .ok (.if_icmp .ge 36, 3) := by decide +kernel
theorem dX6_digest_53 : decode cX6_digest 53 = .ok (.aload_n 0, 1) := by decide +kernel
theorem dX6_digest_54 : decode cX6_digest 54 = .ok (.bipush 34, 2) := by decide +kernel
theorem dX6_digest_56 : decode cX6_digest 56 = .ok (.iload_n 1, 1) := by decide +kernel
theorem dX6_digest_57 : decode cX6_digest 57 = .ok (.iadd, 1) := by decide +kernel
theorem dX6_digest_58 : decode cX6_digest 58 = .ok (.iconst 1, 1) := by decide +kernel
theorem dX6_digest_59 : decode cX6_digest 59 = .ok (.invokevirtual 315, 3) := by decide +kernel
theorem dX6_digest_62 : decode cX6_digest 62 = .ok (.aload_n 0, 1) := by decide +kernel
theorem dX6_digest_63 : decode cX6_digest 63 = .ok (.bipush 41, 2) := by decide +kernel
theorem dX6_digest_65 : decode cX6_digest 65 = .ok (.iload_n 1, 1) := by decide +kernel
theorem dX6_digest_66 : decode cX6_digest 66 = .ok (.iadd, 1) := by decide +kernel
theorem dX6_digest_67 : decode cX6_digest 67 = .ok (.iconst 1, 1) := by decide +kernel
theorem dX6_digest_68 : decode cX6_digest 68 = .ok (.invokevirtual 315, 3) := by decide +kernel
theorem dX6_digest_71 : decode cX6_digest 71 = .ok (.aload_n 0, 1) := by decide +kernel
theorem dX6_digest_72 : decode cX6_digest 72 = .ok (.bipush 25, 2) := by decide +kernel
theorem dX6_digest_74 : decode cX6_digest 74 = .ok (.iload_n 1, 1) := by decide +kernel
theorem dX6_digest_75 : decode cX6_digest 75 = .ok (.iadd, 1) := by decide +kernel
theorem dX6_digest_76 : decode cX6_digest 76 = .ok (.iconst 1, 1) := by decide +kernel
theorem dX6_digest_77 : decode cX6_digest 77 = .ok (.invokevirtual 315, 3) := by decide +kernel
theorem dX6_digest_80 : decode cX6_digest 80 = .ok (.iinc 1 1, 3) := by decide +kernel
theorem dX6_digest_83 : decode cX6_digest 83 = .ok (.goto (-41), 3) := by decide +kernel
theorem dX6_digest_86 : decode cX6_digest 86 = .ok (.iconst 0, 1) := by decide +kernel
theorem dX6_digest_87 : decode cX6_digest 87 = .ok (.istore_n 1, 1) := by decide +kernel
theorem dX6_digest_88 : decode cX6_digest 88 = .ok (.iload_n 1, 1) := by decide +kernel
theorem dX6_digest_89 : decode cX6_digest 89 = .ok (.aload_n 0, 1) := by decide +kernel
theorem dX6_digest_90 : decode cX6_digest 90 = .ok (.getfield 7, 3) := by decide +kernel
theorem dX6_digest_93 : decode cX6_digest 93 = .ok (.bipush 48, 2) := by decide +kernel
theorem dX6_digest_95 : decode cX6_digest 95 = .ok (.iaload, 1) := by decide +kernel
theorem dX6_digest_96 : decode cX6_digest 96 = .ok (.if_icmp .ge 45, 3) := by decide +kernel
theorem dX6_digest_99 : decode cX6_digest 99 = .ok (.aload_n 0, 1) := by decide +kernel
theorem dX6_digest_100 : decode cX6_digest 100 = .ok (.bipush 49, 2) := by decide +kernel
theorem dX6_digest_102 : decode cX6_digest 102 = .ok (.iload_n 1, 1) := by decide +kernel
theorem dX6_digest_103 : decode cX6_digest 103 = .ok (.iadd, 1) := by decide +kernel
theorem dX6_digest_104 : decode cX6_digest 104 = .ok (.iconst 1, 1) := by decide +kernel
theorem dX6_digest_105 : decode cX6_digest 105 = .ok (.invokevirtual 315, 3) := by decide +kernel
theorem dX6_digest_108 : decode cX6_digest 108 = .ok (.aload_n 0, 1) := by decide +kernel
theorem dX6_digest_109 : decode cX6_digest 109 = .ok (.bipush 54, 2) := by decide +kernel
theorem dX6_digest_111 : decode cX6_digest 111 = .ok (.iload_n 1, 1) := by decide +kernel
theorem dX6_digest_112 : decode cX6_digest 112 = .ok (.iadd, 1) := by decide +kernel
theorem dX6_digest_113 : decode cX6_digest 113 = .ok (.iconst 1, 1) := by decide +kernel
theorem dX6_digest_114 : decode cX6_digest 114 = .ok (.invokevirtual 315, 3) := by decide +kernel
theorem dX6_digest_117 : decode cX6_digest 117 = .ok (.aload_n 0, 1) := by decide +kernel
theorem dX6_digest_118 : decode cX6_digest 118 = .ok (.iconst 0, 1) := by decide +kernel
theorem dX6_digest_119 : decode cX6_digest 119 = .ok (.iload_n 1, 1) := by decide +kernel
theorem dX6_digest_120 : decode cX6_digest 120 = .ok (.iadd, 1) := by decide +kernel
theorem dX6_digest_121 : decode cX6_digest 121 = .ok (.iconst 1, 1) := by decide +kernel
theorem dX6_digest_122 : decode cX6_digest 122 = .ok (.invokevirtual 315, 3) := by decide +kernel
theorem dX6_digest_125 : decode cX6_digest 125 = .ok (.aload_n 0, 1) := by decide +kernel
theorem dX6_digest_126 : decode cX6_digest 126 = .ok (.iconst 5, 1) := by decide +kernel
theorem dX6_digest_127 : decode cX6_digest 127 = .ok (.iconst 4, 1) := by decide +kernel
theorem dX6_digest_128 : decode cX6_digest 128 = .ok (.iload_n 1, 1) := by decide +kernel
theorem dX6_digest_129 : decode cX6_digest 129 = .ok (.imul, 1) := by decide +kernel
theorem dX6_digest_130 : decode cX6_digest 130 = .ok (.iadd, 1) := by decide +kernel
theorem dX6_digest_131 : decode cX6_digest 131 = .ok (.iconst 4, 1) := by decide +kernel
theorem dX6_digest_132 : decode cX6_digest 132 = .ok (.invokevirtual 315, 3) := by decide +kernel
theorem dX6_digest_135 : decode cX6_digest 135 = .ok (.iinc 1 1, 3) := by decide +kernel
theorem dX6_digest_138 : decode cX6_digest 138 = .ok (.goto (-50), 3) := by decide +kernel
theorem dX6_digest_141 : decode cX6_digest 141 = .ok (.aload_n 0, 1) := by decide +kernel
theorem dX6_digest_142 : decode cX6_digest 142 = .ok (.bipush 60, 2) := by decide +kernel
theorem dX6_digest_144 : decode cX6_digest 144 = .ok (.iconst 3, 1) := by decide +kernel
theorem dX6_digest_145 : decode cX6_digest 145 = .ok (.aload_n 0, 1) := by decide +kernel
theorem dX6_digest_146 : decode cX6_digest 146 = .ok (.getfield 7, 3) := by decide +kernel
theorem dX6_digest_149 : decode cX6_digest 149 = .ok (.bipush 59, 2) := by decide +kernel
theorem dX6_digest_151 : decode cX6_digest 151 = .ok (.iaload, 1) := by decide +kernel
theorem dX6_digest_152 : decode cX6_digest 152 = .ok (.imul, 1) := by decide +kernel
theorem dX6_digest_153 : decode cX6_digest 153 = .ok (.invokevirtual 315, 3) := by decide +kernel
theorem dX6_digest_156 : decode cX6_digest 156 = .ok (.aload_n 0, 1) := by decide +kernel
theorem dX6_digest_157 : decode cX6_digest 157 = .ok (.bipush 79, 2) := by decide +kernel
theorem dX6_digest_159 : decode cX6_digest 159 = .ok (.iconst 5, 1) := by decide +kernel
theorem dX6_digest_160 : decode cX6_digest 160 = .ok (.aload_n 0, 1) := by decide +kernel
theorem dX6_digest_161 : decode cX6_digest 161 = .ok (.getfield 7, 3) := by decide +kernel
theorem dX6_digest_164 : decode cX6_digest 164 = .ok (.bipush 78, 2) := by decide +kernel
theorem dX6_digest_166 : decode cX6_digest 166 = .ok (.iaload, 1) := by decide +kernel
theorem dX6_digest_167 : decode cX6_digest 167 = .ok (.imul, 1) := by decide +kernel
theorem dX6_digest_168 : decode cX6_digest 168 = .ok (.invokevirtual 315, 3) := by decide +kernel
theorem dX6_digest_171 : decode cX6_digest 171 = .ok (.aload_n 0, 1) := by decide +kernel
theorem dX6_digest_172 : decode cX6_digest 172 = .ok (.bipush 110, 2) := by decide +kernel
theorem dX6_digest_174 : decode cX6_digest 174 = .ok (.iconst 4, 1) := by decide +kernel
theorem dX6_digest_175 : decode cX6_digest 175 = .ok (.aload_n 0, 1) := by decide +kernel
theorem dX6_digest_176 : decode cX6_digest 176 = .ok (.getfield 7, 3) := by decide +kernel
theorem dX6_digest_179 : decode cX6_digest 179 = .ok (.bipush 109, 2) := by decide +kernel
theorem dX6_digest_181 : decode cX6_digest 181 = .ok (.iaload, 1) := by decide +kernel
theorem dX6_digest_182 : decode cX6_digest 182 = .ok (.imul, 1) := by decide +kernel
theorem dX6_digest_183 : decode cX6_digest 183 = .ok (.invokevirtual 315, 3) := by decide +kernel
theorem dX6_digest_186 : decode cX6_digest 186 = .ok (.ldc2_w 308, 3) := by decide +kernel
theorem dX6_digest_189 : decode cX6_digest 189 = .ok (.ldc2_w 308, 3) := by decide +kernel
theorem dX6_digest_192 : decode cX6_digest 192 = .ok (.aload_n 0, 1) := by decide +kernel
theorem dX6_digest_193 : decode cX6_digest 193 = .ok (.getfield 310, 3) := by decide +kernel
theorem dX6_digest_196 : decode cX6_digest 196 = .ok (.lmul, 1) := by decide +kernel
theorem dX6_digest_197 : decode cX6_digest 197 = .ok (.aload_n 0, 1) := by decide +kernel
theorem dX6_digest_198 : decode cX6_digest 198 = .ok (.getfield 278, 3) := by decide +kernel
theorem dX6_digest_201 : decode cX6_digest 201 = .ok (.ladd, 1) := by decide +kernel
theorem dX6_digest_202 : decode cX6_digest 202 = .ok (.lmul, 1) := by decide +kernel
theorem dX6_digest_203 : decode cX6_digest 203 = .ok (.aload_n 0, 1) := by decide +kernel
theorem dX6_digest_204 : decode cX6_digest 204 = .ok (.getfield 29, 3) := by decide +kernel
theorem dX6_digest_207 : decode cX6_digest 207 = .ok (.ladd, 1) := by decide +kernel
theorem dX6_digest_208 : decode cX6_digest 208 = .ok (.lreturn, 1) := by decide +kernel
theorem dJ9_max_7cf53_0 : decode cJ9_max_7cf53 0 = .ok (.iload_n 0, 1) := by decide +kernel
theorem dJ9_max_7cf53_1 : decode cJ9_max_7cf53 1 = .ok (.iload_n 1, 1) := by decide +kernel
theorem dJ9_max_7cf53_2 : decode cJ9_max_7cf53 2 = .ok (.if_icmp .lt 7, 3) := by decide +kernel
theorem dJ9_max_7cf53_5 : decode cJ9_max_7cf53 5 = .ok (.iload_n 0, 1) := by decide +kernel
theorem dJ9_max_7cf53_6 : decode cJ9_max_7cf53 6 = .ok (.goto 4, 3) := by decide +kernel
theorem dJ9_max_7cf53_9 : decode cJ9_max_7cf53 9 = .ok (.iload_n 1, 1) := by decide +kernel
theorem dJ9_max_7cf53_10 : decode cJ9_max_7cf53 10 = .ok (.ireturn, 1) := by decide +kernel
theorem dJ9_min_7cf53_0 : decode cJ9_min_7cf53 0 = .ok (.iload_n 0, 1) := by decide +kernel
theorem dJ9_min_7cf53_1 : decode cJ9_min_7cf53 1 = .ok (.iload_n 1, 1) := by decide +kernel
theorem dJ9_min_7cf53_2 : decode cJ9_min_7cf53 2 = .ok (.if_icmp .gt 7, 3) := by decide +kernel
theorem dJ9_min_7cf53_5 : decode cJ9_min_7cf53 5 = .ok (.iload_n 0, 1) := by decide +kernel
theorem dJ9_min_7cf53_6 : decode cJ9_min_7cf53 6 = .ok (.goto 4, 3) := by decide +kernel
theorem dJ9_min_7cf53_9 : decode cJ9_min_7cf53 9 = .ok (.iload_n 1, 1) := by decide +kernel
theorem dJ9_min_7cf53_10 : decode cJ9_min_7cf53 10 = .ok (.ireturn, 1) := by decide +kernel
theorem dJ0_length_8abf5_0 : decode cJ0_length_8abf5 0 = .ok (.aload_n 0, 1) := by decide +kernel
theorem dJ0_length_8abf5_1 : decode cJ0_length_8abf5 1 = .ok (.getfield 9, 3) := by decide +kernel
theorem dJ0_length_8abf5_4 : decode cJ0_length_8abf5 4 = .ok (.arraylength, 1) := by decide +kernel
theorem dJ0_length_8abf5_5 : decode cJ0_length_8abf5 5 = .ok (.aload_n 0, 1) := by decide +kernel
theorem dJ0_length_8abf5_6 : decode cJ0_length_8abf5 6 = .ok (.invokevirtual 335, 3) := by decide +kernel
theorem dJ0_length_8abf5_9 : decode cJ0_length_8abf5 9 = .ok (.ishr, 1) := by decide +kernel
theorem dJ0_length_8abf5_10 : decode cJ0_length_8abf5 10 = .ok (.ireturn, 1) := by decide +kernel
theorem dJ0_charAt_5068e_0 : decode cJ0_charAt_5068e 0 = .ok (.aload_n 0, 1) := by decide +kernel
theorem dJ0_charAt_5068e_1 : decode cJ0_charAt_5068e 1 = .ok (.invokevirtual 492, 3) := by decide +kernel
theorem dJ0_charAt_5068e_4 : decode cJ0_charAt_5068e 4 = .ok (.ifCond .eq 12, 3) := by decide +kernel
theorem dJ0_charAt_5068e_7 : decode cJ0_charAt_5068e 7 = .ok (.aload_n 0, 1) := by decide +kernel
theorem dJ0_charAt_5068e_8 : decode cJ0_charAt_5068e 8 = .ok (.getfield 9, 3) := by decide +kernel
theorem dJ0_charAt_5068e_11 : decode cJ0_charAt_5068e 11 = .ok (.iload_n 1, 1) := by decide +kernel
theorem dJ0_charAt_5068e_12 : decode cJ0_charAt_5068e 12 = .ok (.invokestatic 495, 3) := by decide +kernel
theorem dJ0_charAt_5068e_15 : decode cJ0_charAt_5068e 15 = .ok (.ireturn, 1) := by decide +kernel
theorem dJ0_charAt_5068e_16 : decode cJ0_charAt_5068e 16 = .ok (.aload_n 0, 1) := by decide +kernel
theorem dJ0_charAt_5068e_17 : decode cJ0_charAt_5068e 17 = .ok (.getfield 9, 3) := by decide +kernel
theorem dJ0_charAt_5068e_20 : decode cJ0_charAt_5068e 20 = .ok (.iload_n 1, 1) := by decide +kernel
theorem dJ0_charAt_5068e_21 : decode cJ0_charAt_5068e 21 = .ok (.invokestatic 498, 3) := by decide +kernel
theorem dJ0_charAt_5068e_24 : decode cJ0_charAt_5068e 24 = .ok (.ireturn, 1) := by decide +kernel
theorem dJ0_coder_7d493_0 : decode cJ0_coder_7d493 0 = .ok (.getstatic 38, 3) := by decide +kernel
theorem dJ0_coder_7d493_3 : decode cJ0_coder_7d493 3 = .ok (.ifCond .eq 10, 3) := by decide +kernel
theorem dJ0_coder_7d493_6 : decode cJ0_coder_7d493 6 = .ok (.aload_n 0, 1) := by decide +kernel
theorem dJ0_coder_7d493_7 : decode cJ0_coder_7d493 7 = .ok (.getfield 15, 3) := by decide +kernel
theorem dJ0_coder_7d493_10 : decode cJ0_coder_7d493 10 = .ok (.goto 4, 3) := by decide +kernel
theorem dJ0_coder_7d493_13 : decode cJ0_coder_7d493 13 = .ok (.iconst 1, 1) := by decide +kernel
theorem dJ0_coder_7d493_14 : decode cJ0_coder_7d493 14 = .ok (.ireturn, 1) := by decide +kernel
theorem dJ0_isLatin1_aae02_0 : decode cJ0_isLatin1_aae02 0 = .ok (.getstatic 38, 3) := by decide +kernel
theorem dJ0_isLatin1_aae02_3 : decode cJ0_isLatin1_aae02 3 = .ok (.ifCond .eq 14, 3) := by decide +kernel
theorem dJ0_isLatin1_aae02_6 : decode cJ0_isLatin1_aae02 6 = .ok (.aload_n 0, 1) := by decide +kernel
theorem dJ0_isLatin1_aae02_7 : decode cJ0_isLatin1_aae02 7 = .ok (.getfield 15, 3) := by decide +kernel
theorem dJ0_isLatin1_aae02_10 : decode cJ0_isLatin1_aae02 10 = .ok (.ifCond .ne 7, 3) := by decide +kernel
theorem dJ0_isLatin1_aae02_13 : decode cJ0_isLatin1_aae02 13 = .ok (.iconst 1, 1) := by decide +kernel
theorem dJ0_isLatin1_aae02_14 : decode cJ0_isLatin1_aae02 14 = .ok (.goto 4, 3) := by decide +kernel
theorem dJ0_isLatin1_aae02_17 : decode cJ0_isLatin1_aae02 17 = .ok (.iconst 0, 1) := by decide +kernel
theorem dJ0_isLatin1_aae02_18 : decode cJ0_isLatin1_aae02 18 = .ok (.ireturn, 1) := by decide +kernel
theorem dJ0_checkIndex_df160_0 : decode cJ0_checkIndex_df160 0 = .ok (.iload_n 0, 1) := by decide +kernel
theorem dJ0_checkIndex_df160_1 : decode cJ0_checkIndex_df160 1 = .ok (.iload_n 1, 1) := by decide +kernel
theorem dJ0_checkIndex_df160_2 : decode cJ0_checkIndex_df160 2 = .ok (.getstatic 1053, 3) := by decide +kernel
theorem dJ0_checkIndex_df160_5 : decode cJ0_checkIndex_df160 5 = .ok (.invokestatic 1059, 3) := by decide +kernel
theorem dJ0_checkIndex_df160_8 : decode cJ0_checkIndex_df160 8 = .ok (.pop, 1) := by decide +kernel
theorem dJ0_checkIndex_df160_9 : decode cJ0_checkIndex_df160 9 = .ok (.return_, 1) := by decide +kernel
theorem dJ1_charAt_3b067_0 : decode cJ1_charAt_3b067 0 = .ok (.iload_n 1, 1) := by decide +kernel
theorem dJ1_charAt_3b067_1 : decode cJ1_charAt_3b067 1 = .ok (.aload_n 0, 1) := by decide +kernel
theorem dJ1_charAt_3b067_2 : decode cJ1_charAt_3b067 2 = .ok (.arraylength, 1) := by decide +kernel
theorem dJ1_charAt_3b067_3 : decode cJ1_charAt_3b067 3 = .ok (.invokestatic 9, 3) := by decide +kernel
theorem dJ1_charAt_3b067_6 : decode cJ1_charAt_3b067 6 = .ok (.aload_n 0, 1) := by decide +kernel
theorem dJ1_charAt_3b067_7 : decode cJ1_charAt_3b067 7 = .ok (.iload_n 1, 1) := by decide +kernel
theorem dJ1_charAt_3b067_8 : decode cJ1_charAt_3b067 8 = .ok (.baload, 1) := by decide +kernel
theorem dJ1_charAt_3b067_9 : decode cJ1_charAt_3b067 9 = .ok (.sipush 255, 3) := by decide +kernel
theorem dJ1_charAt_3b067_12 : decode cJ1_charAt_3b067 12 = .ok (.iand, 1) := by decide +kernel
theorem dJ1_charAt_3b067_13 : decode cJ1_charAt_3b067 13 = .ok (.i2c, 1) := by decide +kernel
theorem dJ1_charAt_3b067_14 : decode cJ1_charAt_3b067 14 = .ok (.ireturn, 1) := by decide +kernel
end
section
theorem dJ2_getChar_3b067_0 : decode cJ2_getChar_3b067 0 = .ok (.getstatic 44, 3) := by decide +kernel
theorem dJ2_getChar_3b067_3 : decode cJ2_getChar_3b067 3 = .ok (.ifCond .ne 25, 3) := by decide +kernel
theorem dJ2_getChar_3b067_6 : decode cJ2_getChar_3b067 6 = .ok (.iload_n 1, 1) := by decide +kernel
theorem dJ2_getChar_3b067_7 : decode cJ2_getChar_3b067 7 = .ok (.ifCond .lt 11, 3) := by decide +kernel
theorem dJ2_getChar_3b067_10 : decode cJ2_getChar_3b067 10 = .ok (.iload_n 1, 1) := by decide +kernel
theorem dJ2_getChar_3b067_11 : decode cJ2_getChar_3b067 11 = .ok (.aload_n 0, 1) := by decide +kernel
theorem dJ2_getChar_3b067_12 : decode cJ2_getChar_3b067 12 = .ok (.invokestatic 48, 3) := by decide +kernel
theorem dJ2_getChar_3b067_15 : decode cJ2_getChar_3b067 15 = .ok (.if_icmp .lt 13, 3) := by decide +kernel
theorem dJ2_getChar_3b067_18 : decode cJ2_getChar_3b067 18 = .ok (.new 52, 3) := by decide +kernel
theorem dJ2_getChar_3b067_21 : decode cJ2_getChar_3b067 21 = .ok (.dup, 1) := by decide +kernel
theorem dJ2_getChar_3b067_22 : decode cJ2_getChar_3b067 22 = .ok (.ldc 54, 2) := by decide +kernel
theorem dJ2_getChar_3b067_24 : decode cJ2_getChar_3b067 24 = .ok (.invokespecial 56, 3) := by decide +kernel
theorem dJ2_getChar_3b067_27 : decode cJ2_getChar_3b067 27 = .ok (.athrow, 1) := by decide +kernel
theorem dJ2_getChar_3b067_28 : decode cJ2_getChar_3b067 28 = .ok (.iload_n 1, 1) := by decide +kernel
theorem dJ2_getChar_3b067_29 : decode cJ2_getChar_3b067 29 = .ok (.iconst 1, 1) := by decide +kernel
theorem dJ2_getChar_3b067_30 : decode cJ2_getChar_3b067 30 = .ok (.ishl, 1) := by decide +kernel
theorem dJ2_getChar_3b067_31 : decode cJ2_getChar_3b067 31 = .ok (.istore_n 1, 1) := by decide +kernel
theorem dJ2_getChar_3b067_32 : decode cJ2_getChar_3b067 32 = .ok (.aload_n 0, 1) := by decide +kernel
theorem dJ2_getChar_3b067_33 : decode cJ2_getChar_3b067 33 = .ok (.iload_n 1, 1) := by decide +kernel
theorem dJ2_getChar_3b067_34 : decode cJ2_getChar_3b067 34 = .ok (.iinc 1 1, 3) := by decide +kernel
theorem dJ2_getChar_3b067_37 : decode cJ2_getChar_3b067 37 = .ok (.baload, 1) := by decide +kernel
theorem dJ2_getChar_3b067_38 : decode cJ2_getChar_3b067 38 = .ok (.sipush 255, 3) := by decide +kernel
theorem dJ2_getChar_3b067_41 : decode cJ2_getChar_3b067 41 = .ok (.iand, 1) := by decide +kernel
theorem dJ2_getChar_3b067_42 : decode cJ2_getChar_3b067 42 = .ok (.getstatic 59, 3) := by decide +kernel
theorem dJ2_getChar_3b067_45 : decode cJ2_getChar_3b067 45 = .ok (.ishl, 1) := by decide +kernel
theorem dJ2_getChar_3b067_46 : decode cJ2_getChar_3b067 46 = .ok (.aload_n 0, 1) := by decide +kernel
theorem dJ2_getChar_3b067_47 : decode cJ2_getChar_3b067 47 = .ok (.iload_n 1, 1) := by decide +kernel
theorem dJ2_getChar_3b067_48 : decode cJ2_getChar_3b067 48 = .ok (.baload, 1) := by decide +kernel
theorem dJ2_getChar_3b067_49 : decode cJ2_getChar_3b067 49 = .ok (.sipush 255, 3) := by decide +kernel
theorem dJ2_getChar_3b067_52 : decode cJ2_getChar_3b067 52 = .ok (.iand, 1) := by decide +kernel
theorem dJ2_getChar_3b067_53 : decode cJ2_getChar_3b067 53 = .ok (.getstatic 63, 3) := by decide +kernel
theorem dJ2_getChar_3b067_56 : decode cJ2_getChar_3b067 56 = .ok (.ishl, 1) := by decide +kernel
theorem dJ2_getChar_3b067_57 : decode cJ2_getChar_3b067 57 = .ok (.ior, 1) := by decide +kernel
theorem dJ2_getChar_3b067_58 : decode cJ2_getChar_3b067 58 = .ok (.i2c, 1) := by decide +kernel
theorem dJ2_getChar_3b067_59 : decode cJ2_getChar_3b067 59 = .ok (.ireturn, 1) := by decide +kernel
theorem dJ2_length_9d52b_0 : decode cJ2_length_9d52b 0 = .ok (.aload_n 0, 1) := by decide +kernel
theorem dJ2_length_9d52b_1 : decode cJ2_length_9d52b 1 = .ok (.arraylength, 1) := by decide +kernel
theorem dJ2_length_9d52b_2 : decode cJ2_length_9d52b 2 = .ok (.iconst 1, 1) := by decide +kernel
theorem dJ2_length_9d52b_3 : decode cJ2_length_9d52b 3 = .ok (.ishr, 1) := by decide +kernel
theorem dJ2_length_9d52b_4 : decode cJ2_length_9d52b 4 = .ok (.ireturn, 1) := by decide +kernel
theorem dJ2_charAt_3b067_0 : decode cJ2_charAt_3b067 0 = .ok (.iload_n 1, 1) := by decide +kernel
theorem dJ2_charAt_3b067_1 : decode cJ2_charAt_3b067 1 = .ok (.aload_n 0, 1) := by decide +kernel
theorem dJ2_charAt_3b067_2 : decode cJ2_charAt_3b067 2 = .ok (.invokestatic 67, 3) := by decide +kernel
theorem dJ2_charAt_3b067_5 : decode cJ2_charAt_3b067 5 = .ok (.aload_n 0, 1) := by decide +kernel
theorem dJ2_charAt_3b067_6 : decode cJ2_charAt_3b067 6 = .ok (.iload_n 1, 1) := by decide +kernel
theorem dJ2_charAt_3b067_7 : decode cJ2_charAt_3b067 7 = .ok (.invokestatic 71, 3) := by decide +kernel
theorem dJ2_charAt_3b067_10 : decode cJ2_charAt_3b067 10 = .ok (.ireturn, 1) := by decide +kernel
theorem dJ2_checkIndex_2214a_0 : decode cJ2_checkIndex_2214a 0 = .ok (.iload_n 0, 1) := by decide +kernel
theorem dJ2_checkIndex_2214a_1 : decode cJ2_checkIndex_2214a 1 = .ok (.aload_n 1, 1) := by decide +kernel
theorem dJ2_checkIndex_2214a_2 : decode cJ2_checkIndex_2214a 2 = .ok (.invokestatic 48, 3) := by decide +kernel
theorem dJ2_checkIndex_2214a_5 : decode cJ2_checkIndex_2214a 5 = .ok (.invokestatic 414, 3) := by decide +kernel
theorem dJ2_checkIndex_2214a_8 : decode cJ2_checkIndex_2214a 8 = .ok (.return_, 1) := by decide +kernel
theorem dJ7_fill_53178_0 : decode cJ7_fill_53178 0 = .ok (.iconst 0, 1) := by decide +kernel
theorem dJ7_fill_53178_1 : decode cJ7_fill_53178 1 = .ok (.istore_n 2, 1) := by decide +kernel
theorem dJ7_fill_53178_2 : decode cJ7_fill_53178 2 = .ok (.aload_n 0, 1) := by decide +kernel
theorem dJ7_fill_53178_3 : decode cJ7_fill_53178 3 = .ok (.arraylength, 1) := by decide +kernel
theorem dJ7_fill_53178_4 : decode cJ7_fill_53178 4 = .ok (.istore_n 3, 1) := by decide +kernel
theorem dJ7_fill_53178_5 : decode cJ7_fill_53178 5 = .ok (.iload_n 2, 1) := by decide +kernel
theorem dJ7_fill_53178_6 : decode cJ7_fill_53178 6 = .ok (.iload_n 3, 1) := by decide +kernel
theorem dJ7_fill_53178_7 : decode cJ7_fill_53178 7 = .ok (.if_icmp .ge 13, 3) := by decide +kernel
theorem dJ7_fill_53178_10 : decode cJ7_fill_53178 10 = .ok (.aload_n 0, 1) := by decide +kernel
theorem dJ7_fill_53178_11 : decode cJ7_fill_53178 11 = .ok (.iload_n 2, 1) := by decide +kernel
theorem dJ7_fill_53178_12 : decode cJ7_fill_53178 12 = .ok (.iload_n 1, 1) := by decide +kernel
theorem dJ7_fill_53178_13 : decode cJ7_fill_53178 13 = .ok (.iastore, 1) := by decide +kernel
theorem dJ7_fill_53178_14 : decode cJ7_fill_53178 14 = .ok (.iinc 2 1, 3) := by decide +kernel
theorem dJ7_fill_53178_17 : decode cJ7_fill_53178 17 = .ok (.goto (-12), 3) := by decide +kernel
theorem dJ7_fill_53178_20 : decode cJ7_fill_53178 20 = .ok (.return_, 1) := by decide +kernel
theorem dJ3_checkIndex_8e157_0 : decode cJ3_checkIndex_8e157 0 = .ok (.iload_n 0, 1) := by decide +kernel
theorem dJ3_checkIndex_8e157_1 : decode cJ3_checkIndex_8e157 1 = .ok (.ifCond .lt 8, 3) := by decide +kernel
theorem dJ3_checkIndex_8e157_4 : decode cJ3_checkIndex_8e157 4 = .ok (.iload_n 0, 1) := by decide +kernel
theorem dJ3_checkIndex_8e157_5 : decode cJ3_checkIndex_8e157 5 = .ok (.iload_n 1, 1) := by decide +kernel
theorem dJ3_checkIndex_8e157_6 : decode cJ3_checkIndex_8e157 6 = .ok (.if_icmp .lt 10, 3) := by decide +kernel
theorem dJ3_checkIndex_8e157_9 : decode cJ3_checkIndex_8e157 9 = .ok (.aload_n 2, 1) := by decide +kernel
theorem dJ3_checkIndex_8e157_10 : decode cJ3_checkIndex_8e157 10 = .ok (.iload_n 0, 1) := by decide +kernel
theorem dJ3_checkIndex_8e157_11 : decode cJ3_checkIndex_8e157 11 = .ok (.iload_n 1, 1) := by decide +kernel
theorem dJ3_checkIndex_8e157_12 : decode cJ3_checkIndex_8e157 12 = .ok (.invokestatic 95, 3) := by decide +kernel
theorem dJ3_checkIndex_8e157_15 : decode cJ3_checkIndex_8e157 15 = .ok (.athrow, 1) := by decide +kernel
theorem dJ3_checkIndex_8e157_16 : decode cJ3_checkIndex_8e157 16 = .ok (.iload_n 0, 1) := by decide +kernel
theorem dJ3_checkIndex_8e157_17 : decode cJ3_checkIndex_8e157 17 = .ok (.ireturn, 1) := by decide +kernel
theorem dL_law_0 : decode cL_law 0 = .ok (.new 7, 3) := by decide +kernel
theorem dL_law_3 : decode cL_law 3 = .ok (.dup, 1) := by decide +kernel
theorem dL_law_4 : decode cL_law 4 = .ok (.invokespecial 9, 3) := by decide +kernel
theorem dL_law_7 : decode cL_law 7 = .ok (.astore_n 1, 1) := by decide +kernel
theorem dL_law_8 : decode cL_law 8 = .ok (.new 10, 3) := by decide +kernel
theorem dL_law_11 : decode cL_law 11 = .ok (.dup, 1) := by decide +kernel
theorem dL_law_12 : decode cL_law 12 = .ok (.invokespecial 12, 3) := by decide +kernel
theorem dL_law_15 : decode cL_law 15 = .ok (.astore_n 2, 1) := by decide +kernel
theorem dL_law_16 : decode cL_law 16 = .ok (.iconst 0, 1) := by decide +kernel
theorem dL_law_17 : decode cL_law 17 = .ok (.istore_n 3, 1) := by decide +kernel
theorem dL_law_18 : decode cL_law 18 = .ok (.iload_n 3, 1) := by decide +kernel
theorem dL_law_19 : decode cL_law 19 = .ok (.aload_n 0, 1) := by decide +kernel
theorem dL_law_20 : decode cL_law 20 = .ok (.arraylength, 1) := by decide +kernel
theorem dL_law_21 : decode cL_law 21 = .ok (.bipush 6, 2) := by decide +kernel
theorem dL_law_23 : decode cL_law 23 = .ok (.isub, 1) := by decide +kernel
theorem dL_law_24 : decode cL_law 24 = .ok (.if_icmp .gt 1486, 3) := by decide +kernel
theorem dL_law_27 : decode cL_law 27 = .ok (.aload_n 0, 1) := by decide +kernel
theorem dL_law_28 : decode cL_law 28 = .ok (.iload_n 3, 1) := by decide +kernel
theorem dL_law_29 : decode cL_law 29 = .ok (.iaload, 1) := by decide +kernel
theorem dL_law_30 : decode cL_law 30 = .ok (.bipush 63, 2) := by decide +kernel
theorem dL_law_32 : decode cL_law 32 = .ok (.iand, 1) := by decide +kernel
theorem dL_law_33 : decode cL_law 33 = .ok (.tableswitch 1471 0 41 #[183, 196, 239, 272, 295, 308, 321, 354, 387, 410, 423, 456, 489, 522, 555, 598, 631, 674, 707, 730, 783, 826, 859, 872, 895, 948, 991, 1054, 1107, 1130, 1153, 1176, 1199, 1222, 1265, 1308, 1341, 1365, 1388, 1411, 1434, 1457], 183) := by decide +kernel
theorem dL_law_216 : decode cL_law 216 = .ok (.aload_n 1, 1) := by decide +kernel
theorem dL_law_217 : decode cL_law 217 = .ok (.invokevirtual 13, 3) := by decide +kernel
theorem dL_law_220 : decode cL_law 220 = .ok (.aload_n 2, 1) := by decide +kernel
theorem dL_law_221 : decode cL_law 221 = .ok (.invokevirtual 17, 3) := by decide +kernel
theorem dL_law_224 : decode cL_law 224 = .ok (.if_icmp .eq 1280, 3) := by decide +kernel
theorem dL_law_227 : decode cL_law 227 = .ok (.iconst 0, 1) := by decide +kernel
theorem dL_law_228 : decode cL_law 228 = .ok (.ireturn, 1) := by decide +kernel
theorem dL_law_229 : decode cL_law 229 = .ok (.aload_n 1, 1) := by decide +kernel
theorem dL_law_230 : decode cL_law 230 = .ok (.aload_n 0, 1) := by decide +kernel
theorem dL_law_231 : decode cL_law 231 = .ok (.iload_n 3, 1) := by decide +kernel
theorem dL_law_232 : decode cL_law 232 = .ok (.iconst 1, 1) := by decide +kernel
theorem dL_law_233 : decode cL_law 233 = .ok (.iadd, 1) := by decide +kernel
theorem dL_law_234 : decode cL_law 234 = .ok (.iaload, 1) := by decide +kernel
theorem dL_law_235 : decode cL_law 235 = .ok (.aload_n 0, 1) := by decide +kernel
theorem dL_law_236 : decode cL_law 236 = .ok (.iload_n 3, 1) := by decide +kernel
theorem dL_law_237 : decode cL_law 237 = .ok (.iconst 2, 1) := by decide +kernel
theorem dL_law_238 : decode cL_law 238 = .ok (.iadd, 1) := by decide +kernel
theorem dL_law_239 : decode cL_law 239 = .ok (.iaload, 1) := by decide +kernel
theorem dL_law_240 : decode cL_law 240 = .ok (.aload_n 0, 1) := by decide +kernel
theorem dL_law_241 : decode cL_law 241 = .ok (.iload_n 3, 1) := by decide +kernel
theorem dL_law_242 : decode cL_law 242 = .ok (.iconst 3, 1) := by decide +kernel
theorem dL_law_243 : decode cL_law 243 = .ok (.iadd, 1) := by decide +kernel
theorem dL_law_244 : decode cL_law 244 = .ok (.iaload, 1) := by decide +kernel
theorem dL_law_245 : decode cL_law 245 = .ok (.invokevirtual 18, 3) := by decide +kernel
theorem dL_law_248 : decode cL_law 248 = .ok (.aload_n 2, 1) := by decide +kernel
theorem dL_law_249 : decode cL_law 249 = .ok (.aload_n 0, 1) := by decide +kernel
theorem dL_law_250 : decode cL_law 250 = .ok (.iload_n 3, 1) := by decide +kernel
theorem dL_law_251 : decode cL_law 251 = .ok (.iconst 1, 1) := by decide +kernel
theorem dL_law_252 : decode cL_law 252 = .ok (.iadd, 1) := by decide +kernel
theorem dL_law_253 : decode cL_law 253 = .ok (.iaload, 1) := by decide +kernel
theorem dL_law_254 : decode cL_law 254 = .ok (.aload_n 0, 1) := by decide +kernel
theorem dL_law_255 : decode cL_law 255 = .ok (.iload_n 3, 1) := by decide +kernel
theorem dL_law_256 : decode cL_law 256 = .ok (.iconst 2, 1) := by decide +kernel
theorem dL_law_257 : decode cL_law 257 = .ok (.iadd, 1) := by decide +kernel
theorem dL_law_258 : decode cL_law 258 = .ok (.iaload, 1) := by decide +kernel
theorem dL_law_259 : decode cL_law 259 = .ok (.aload_n 0, 1) := by decide +kernel
theorem dL_law_260 : decode cL_law 260 = .ok (.iload_n 3, 1) := by decide +kernel
theorem dL_law_261 : decode cL_law 261 = .ok (.iconst 3, 1) := by decide +kernel
theorem dL_law_262 : decode cL_law 262 = .ok (.iadd, 1) := by decide +kernel
theorem dL_law_263 : decode cL_law 263 = .ok (.iaload, 1) := by decide +kernel
theorem dL_law_264 : decode cL_law 264 = .ok (.invokevirtual 22, 3) := by decide +kernel
theorem dL_law_267 : decode cL_law 267 = .ok (.if_icmp .eq 1237, 3) := by decide +kernel
theorem dL_law_270 : decode cL_law 270 = .ok (.iconst 0, 1) := by decide +kernel
theorem dL_law_271 : decode cL_law 271 = .ok (.ireturn, 1) := by decide +kernel
theorem dL_law_272 : decode cL_law 272 = .ok (.aload_n 1, 1) := by decide +kernel
theorem dL_law_273 : decode cL_law 273 = .ok (.aload_n 0, 1) := by decide +kernel
theorem dL_law_274 : decode cL_law 274 = .ok (.iload_n 3, 1) := by decide +kernel
theorem dL_law_275 : decode cL_law 275 = .ok (.iconst 1, 1) := by decide +kernel
theorem dL_law_276 : decode cL_law 276 = .ok (.iadd, 1) := by decide +kernel
theorem dL_law_277 : decode cL_law 277 = .ok (.iaload, 1) := by decide +kernel
theorem dL_law_278 : decode cL_law 278 = .ok (.aload_n 0, 1) := by decide +kernel
theorem dL_law_279 : decode cL_law 279 = .ok (.iload_n 3, 1) := by decide +kernel
theorem dL_law_280 : decode cL_law 280 = .ok (.iconst 2, 1) := by decide +kernel
theorem dL_law_281 : decode cL_law 281 = .ok (.iadd, 1) := by decide +kernel
theorem dL_law_282 : decode cL_law 282 = .ok (.iaload, 1) := by decide +kernel
theorem dL_law_283 : decode cL_law 283 = .ok (.invokevirtual 23, 3) := by decide +kernel
theorem dL_law_286 : decode cL_law 286 = .ok (.aload_n 2, 1) := by decide +kernel
theorem dL_law_287 : decode cL_law 287 = .ok (.aload_n 0, 1) := by decide +kernel
theorem dL_law_288 : decode cL_law 288 = .ok (.iload_n 3, 1) := by decide +kernel
theorem dL_law_289 : decode cL_law 289 = .ok (.iconst 1, 1) := by decide +kernel
theorem dL_law_290 : decode cL_law 290 = .ok (.iadd, 1) := by decide +kernel
theorem dL_law_291 : decode cL_law 291 = .ok (.iaload, 1) := by decide +kernel
theorem dL_law_292 : decode cL_law 292 = .ok (.aload_n 0, 1) := by decide +kernel
theorem dL_law_293 : decode cL_law 293 = .ok (.iload_n 3, 1) := by decide +kernel
theorem dL_law_294 : decode cL_law 294 = .ok (.iconst 2, 1) := by decide +kernel
theorem dL_law_295 : decode cL_law 295 = .ok (.iadd, 1) := by decide +kernel
theorem dL_law_296 : decode cL_law 296 = .ok (.iaload, 1) := by decide +kernel
theorem dL_law_297 : decode cL_law 297 = .ok (.invokevirtual 27, 3) := by decide +kernel
theorem dL_law_300 : decode cL_law 300 = .ok (.if_icmp .eq 1204, 3) := by decide +kernel
theorem dL_law_303 : decode cL_law 303 = .ok (.iconst 0, 1) := by decide +kernel
theorem dL_law_304 : decode cL_law 304 = .ok (.ireturn, 1) := by decide +kernel
theorem dL_law_305 : decode cL_law 305 = .ok (.aload_n 1, 1) := by decide +kernel
theorem dL_law_306 : decode cL_law 306 = .ok (.aload_n 0, 1) := by decide +kernel
theorem dL_law_307 : decode cL_law 307 = .ok (.iload_n 3, 1) := by decide +kernel
theorem dL_law_308 : decode cL_law 308 = .ok (.iconst 1, 1) := by decide +kernel
theorem dL_law_309 : decode cL_law 309 = .ok (.iadd, 1) := by decide +kernel
theorem dL_law_310 : decode cL_law 310 = .ok (.iaload, 1) := by decide +kernel
theorem dL_law_311 : decode cL_law 311 = .ok (.invokevirtual 28, 3) := by decide +kernel
theorem dL_law_314 : decode cL_law 314 = .ok (.aload_n 2, 1) := by decide +kernel
theorem dL_law_315 : decode cL_law 315 = .ok (.aload_n 0, 1) := by decide +kernel
theorem dL_law_316 : decode cL_law 316 = .ok (.iload_n 3, 1) := by decide +kernel
theorem dL_law_317 : decode cL_law 317 = .ok (.iconst 1, 1) := by decide +kernel
theorem dL_law_318 : decode cL_law 318 = .ok (.iadd, 1) := by decide +kernel
theorem dL_law_319 : decode cL_law 319 = .ok (.iaload, 1) := by decide +kernel
theorem dL_law_320 : decode cL_law 320 = .ok (.invokevirtual 32, 3) := by decide +kernel
theorem dL_law_323 : decode cL_law 323 = .ok (.if_icmp .eq 1181, 3) := by decide +kernel
theorem dL_law_326 : decode cL_law 326 = .ok (.iconst 0, 1) := by decide +kernel
theorem dL_law_327 : decode cL_law 327 = .ok (.ireturn, 1) := by decide +kernel
theorem dL_law_328 : decode cL_law 328 = .ok (.aload_n 1, 1) := by decide +kernel
theorem dL_law_329 : decode cL_law 329 = .ok (.invokevirtual 33, 3) := by decide +kernel
theorem dL_law_332 : decode cL_law 332 = .ok (.aload_n 2, 1) := by decide +kernel
theorem dL_law_333 : decode cL_law 333 = .ok (.invokevirtual 36, 3) := by decide +kernel
theorem dL_law_336 : decode cL_law 336 = .ok (.if_icmp .eq 1168, 3) := by decide +kernel
theorem dL_law_339 : decode cL_law 339 = .ok (.iconst 0, 1) := by decide +kernel
theorem dL_law_340 : decode cL_law 340 = .ok (.ireturn, 1) := by decide +kernel
theorem dL_law_341 : decode cL_law 341 = .ok (.aload_n 1, 1) := by decide +kernel
theorem dL_law_342 : decode cL_law 342 = .ok (.invokevirtual 37, 3) := by decide +kernel
theorem dL_law_345 : decode cL_law 345 = .ok (.aload_n 2, 1) := by decide +kernel
theorem dL_law_346 : decode cL_law 346 = .ok (.invokevirtual 40, 3) := by decide +kernel
theorem dL_law_349 : decode cL_law 349 = .ok (.if_icmp .eq 1155, 3) := by decide +kernel
theorem dL_law_352 : decode cL_law 352 = .ok (.iconst 0, 1) := by decide +kernel
theorem dL_law_353 : decode cL_law 353 = .ok (.ireturn, 1) := by decide +kernel
theorem dL_law_354 : decode cL_law 354 = .ok (.aload_n 1, 1) := by decide +kernel
theorem dL_law_355 : decode cL_law 355 = .ok (.aload_n 0, 1) := by decide +kernel
theorem dL_law_356 : decode cL_law 356 = .ok (.iload_n 3, 1) := by decide +kernel
theorem dL_law_357 : decode cL_law 357 = .ok (.iconst 1, 1) := by decide +kernel
theorem dL_law_358 : decode cL_law 358 = .ok (.iadd, 1) := by decide +kernel
theorem dL_law_359 : decode cL_law 359 = .ok (.iaload, 1) := by decide +kernel
theorem dL_law_360 : decode cL_law 360 = .ok (.aload_n 0, 1) := by decide +kernel
theorem dL_law_361 : decode cL_law 361 = .ok (.iload_n 3, 1) := by decide +kernel
theorem dL_law_362 : decode cL_law 362 = .ok (.iconst 2, 1) := by decide +kernel
theorem dL_law_363 : decode cL_law 363 = .ok (.iadd, 1) := by decide +kernel
theorem dL_law_364 : decode cL_law 364 = .ok (.iaload, 1) := by decide +kernel
theorem dL_law_365 : decode cL_law 365 = .ok (.invokevirtual 41, 3) := by decide +kernel
theorem dL_law_368 : decode cL_law 368 = .ok (.aload_n 2, 1) := by decide +kernel
theorem dL_law_369 : decode cL_law 369 = .ok (.aload_n 0, 1) := by decide +kernel
theorem dL_law_370 : decode cL_law 370 = .ok (.iload_n 3, 1) := by decide +kernel
theorem dL_law_371 : decode cL_law 371 = .ok (.iconst 1, 1) := by decide +kernel
theorem dL_law_372 : decode cL_law 372 = .ok (.iadd, 1) := by decide +kernel
theorem dL_law_373 : decode cL_law 373 = .ok (.iaload, 1) := by decide +kernel
theorem dL_law_374 : decode cL_law 374 = .ok (.aload_n 0, 1) := by decide +kernel
theorem dL_law_375 : decode cL_law 375 = .ok (.iload_n 3, 1) := by decide +kernel
theorem dL_law_376 : decode cL_law 376 = .ok (.iconst 2, 1) := by decide +kernel
theorem dL_law_377 : decode cL_law 377 = .ok (.iadd, 1) := by decide +kernel
theorem dL_law_378 : decode cL_law 378 = .ok (.iaload, 1) := by decide +kernel
theorem dL_law_379 : decode cL_law 379 = .ok (.invokevirtual 44, 3) := by decide +kernel
theorem dL_law_382 : decode cL_law 382 = .ok (.if_icmp .eq 1122, 3) := by decide +kernel
theorem dL_law_385 : decode cL_law 385 = .ok (.iconst 0, 1) := by decide +kernel
theorem dL_law_386 : decode cL_law 386 = .ok (.ireturn, 1) := by decide +kernel
theorem dL_law_387 : decode cL_law 387 = .ok (.aload_n 1, 1) := by decide +kernel
theorem dL_law_388 : decode cL_law 388 = .ok (.aload_n 0, 1) := by decide +kernel
theorem dL_law_389 : decode cL_law 389 = .ok (.iload_n 3, 1) := by decide +kernel
theorem dL_law_390 : decode cL_law 390 = .ok (.iconst 1, 1) := by decide +kernel
theorem dL_law_391 : decode cL_law 391 = .ok (.iadd, 1) := by decide +kernel
theorem dL_law_392 : decode cL_law 392 = .ok (.iaload, 1) := by decide +kernel
theorem dL_law_393 : decode cL_law 393 = .ok (.aload_n 0, 1) := by decide +kernel
theorem dL_law_394 : decode cL_law 394 = .ok (.iload_n 3, 1) := by decide +kernel
theorem dL_law_395 : decode cL_law 395 = .ok (.iconst 2, 1) := by decide +kernel
theorem dL_law_396 : decode cL_law 396 = .ok (.iadd, 1) := by decide +kernel
theorem dL_law_397 : decode cL_law 397 = .ok (.iaload, 1) := by decide +kernel
theorem dL_law_398 : decode cL_law 398 = .ok (.invokevirtual 45, 3) := by decide +kernel
theorem dL_law_401 : decode cL_law 401 = .ok (.aload_n 2, 1) := by decide +kernel
theorem dL_law_402 : decode cL_law 402 = .ok (.aload_n 0, 1) := by decide +kernel
theorem dL_law_403 : decode cL_law 403 = .ok (.iload_n 3, 1) := by decide +kernel
theorem dL_law_404 : decode cL_law 404 = .ok (.iconst 1, 1) := by decide +kernel
theorem dL_law_405 : decode cL_law 405 = .ok (.iadd, 1) := by decide +kernel
theorem dL_law_406 : decode cL_law 406 = .ok (.iaload, 1) := by decide +kernel
theorem dL_law_407 : decode cL_law 407 = .ok (.aload_n 0, 1) := by decide +kernel
theorem dL_law_408 : decode cL_law 408 = .ok (.iload_n 3, 1) := by decide +kernel
theorem dL_law_409 : decode cL_law 409 = .ok (.iconst 2, 1) := by decide +kernel
theorem dL_law_410 : decode cL_law 410 = .ok (.iadd, 1) := by decide +kernel
theorem dL_law_411 : decode cL_law 411 = .ok (.iaload, 1) := by decide +kernel
theorem dL_law_412 : decode cL_law 412 = .ok (.invokevirtual 48, 3) := by decide +kernel
theorem dL_law_415 : decode cL_law 415 = .ok (.if_icmp .eq 1089, 3) := by decide +kernel
theorem dL_law_418 : decode cL_law 418 = .ok (.iconst 0, 1) := by decide +kernel
theorem dL_law_419 : decode cL_law 419 = .ok (.ireturn, 1) := by decide +kernel
theorem dL_law_420 : decode cL_law 420 = .ok (.aload_n 1, 1) := by decide +kernel
theorem dL_law_421 : decode cL_law 421 = .ok (.aload_n 0, 1) := by decide +kernel
theorem dL_law_422 : decode cL_law 422 = .ok (.iload_n 3, 1) := by decide +kernel
theorem dL_law_423 : decode cL_law 423 = .ok (.iconst 1, 1) := by decide +kernel
theorem dL_law_424 : decode cL_law 424 = .ok (.iadd, 1) := by decide +kernel
theorem dL_law_425 : decode cL_law 425 = .ok (.iaload, 1) := by decide +kernel
theorem dL_law_426 : decode cL_law 426 = .ok (.invokevirtual 49, 3) := by decide +kernel
theorem dL_law_429 : decode cL_law 429 = .ok (.aload_n 2, 1) := by decide +kernel
theorem dL_law_430 : decode cL_law 430 = .ok (.aload_n 0, 1) := by decide +kernel
theorem dL_law_431 : decode cL_law 431 = .ok (.iload_n 3, 1) := by decide +kernel
theorem dL_law_432 : decode cL_law 432 = .ok (.iconst 1, 1) := by decide +kernel
theorem dL_law_433 : decode cL_law 433 = .ok (.iadd, 1) := by decide +kernel
theorem dL_law_434 : decode cL_law 434 = .ok (.iaload, 1) := by decide +kernel
theorem dL_law_435 : decode cL_law 435 = .ok (.invokevirtual 52, 3) := by decide +kernel
theorem dL_law_438 : decode cL_law 438 = .ok (.if_icmp .eq 1066, 3) := by decide +kernel
theorem dL_law_441 : decode cL_law 441 = .ok (.iconst 0, 1) := by decide +kernel
theorem dL_law_442 : decode cL_law 442 = .ok (.ireturn, 1) := by decide +kernel
theorem dL_law_443 : decode cL_law 443 = .ok (.aload_n 1, 1) := by decide +kernel
theorem dL_law_444 : decode cL_law 444 = .ok (.invokevirtual 53, 3) := by decide +kernel
theorem dL_law_447 : decode cL_law 447 = .ok (.aload_n 2, 1) := by decide +kernel
theorem dL_law_448 : decode cL_law 448 = .ok (.invokevirtual 56, 3) := by decide +kernel
theorem dL_law_451 : decode cL_law 451 = .ok (.if_icmp .eq 1053, 3) := by decide +kernel
theorem dL_law_454 : decode cL_law 454 = .ok (.iconst 0, 1) := by decide +kernel
theorem dL_law_455 : decode cL_law 455 = .ok (.ireturn, 1) := by decide +kernel
theorem dL_law_456 : decode cL_law 456 = .ok (.aload_n 1, 1) := by decide +kernel
theorem dL_law_457 : decode cL_law 457 = .ok (.aload_n 0, 1) := by decide +kernel
theorem dL_law_458 : decode cL_law 458 = .ok (.iload_n 3, 1) := by decide +kernel
theorem dL_law_459 : decode cL_law 459 = .ok (.iconst 1, 1) := by decide +kernel
theorem dL_law_460 : decode cL_law 460 = .ok (.iadd, 1) := by decide +kernel
theorem dL_law_461 : decode cL_law 461 = .ok (.iaload, 1) := by decide +kernel
theorem dL_law_462 : decode cL_law 462 = .ok (.aload_n 0, 1) := by decide +kernel
theorem dL_law_463 : decode cL_law 463 = .ok (.iload_n 3, 1) := by decide +kernel
theorem dL_law_464 : decode cL_law 464 = .ok (.iconst 2, 1) := by decide +kernel
theorem dL_law_465 : decode cL_law 465 = .ok (.iadd, 1) := by decide +kernel
theorem dL_law_466 : decode cL_law 466 = .ok (.iaload, 1) := by decide +kernel
theorem dL_law_467 : decode cL_law 467 = .ok (.invokevirtual 57, 3) := by decide +kernel
theorem dL_law_470 : decode cL_law 470 = .ok (.aload_n 2, 1) := by decide +kernel
theorem dL_law_471 : decode cL_law 471 = .ok (.aload_n 0, 1) := by decide +kernel
theorem dL_law_472 : decode cL_law 472 = .ok (.iload_n 3, 1) := by decide +kernel
theorem dL_law_473 : decode cL_law 473 = .ok (.iconst 1, 1) := by decide +kernel
theorem dL_law_474 : decode cL_law 474 = .ok (.iadd, 1) := by decide +kernel
theorem dL_law_475 : decode cL_law 475 = .ok (.iaload, 1) := by decide +kernel
theorem dL_law_476 : decode cL_law 476 = .ok (.aload_n 0, 1) := by decide +kernel
theorem dL_law_477 : decode cL_law 477 = .ok (.iload_n 3, 1) := by decide +kernel
theorem dL_law_478 : decode cL_law 478 = .ok (.iconst 2, 1) := by decide +kernel
theorem dL_law_479 : decode cL_law 479 = .ok (.iadd, 1) := by decide +kernel
theorem dL_law_480 : decode cL_law 480 = .ok (.iaload, 1) := by decide +kernel
theorem dL_law_481 : decode cL_law 481 = .ok (.invokevirtual 60, 3) := by decide +kernel
theorem dL_law_484 : decode cL_law 484 = .ok (.if_icmp .eq 1020, 3) := by decide +kernel
theorem dL_law_487 : decode cL_law 487 = .ok (.iconst 0, 1) := by decide +kernel
theorem dL_law_488 : decode cL_law 488 = .ok (.ireturn, 1) := by decide +kernel
theorem dL_law_489 : decode cL_law 489 = .ok (.aload_n 1, 1) := by decide +kernel
theorem dL_law_490 : decode cL_law 490 = .ok (.aload_n 0, 1) := by decide +kernel
theorem dL_law_491 : decode cL_law 491 = .ok (.iload_n 3, 1) := by decide +kernel
theorem dL_law_492 : decode cL_law 492 = .ok (.iconst 1, 1) := by decide +kernel
theorem dL_law_493 : decode cL_law 493 = .ok (.iadd, 1) := by decide +kernel
theorem dL_law_494 : decode cL_law 494 = .ok (.iaload, 1) := by decide +kernel
theorem dL_law_495 : decode cL_law 495 = .ok (.aload_n 0, 1) := by decide +kernel
theorem dL_law_496 : decode cL_law 496 = .ok (.iload_n 3, 1) := by decide +kernel
theorem dL_law_497 : decode cL_law 497 = .ok (.iconst 2, 1) := by decide +kernel
theorem dL_law_498 : decode cL_law 498 = .ok (.iadd, 1) := by decide +kernel
theorem dL_law_499 : decode cL_law 499 = .ok (.iaload, 1) := by decide +kernel
theorem dL_law_500 : decode cL_law 500 = .ok (.invokevirtual 61, 3) := by decide +kernel
theorem dL_law_503 : decode cL_law 503 = .ok (.aload_n 2, 1) := by decide +kernel
theorem dL_law_504 : decode cL_law 504 = .ok (.aload_n 0, 1) := by decide +kernel
theorem dL_law_505 : decode cL_law 505 = .ok (.iload_n 3, 1) := by decide +kernel
theorem dL_law_506 : decode cL_law 506 = .ok (.iconst 1, 1) := by decide +kernel
theorem dL_law_507 : decode cL_law 507 = .ok (.iadd, 1) := by decide +kernel
theorem dL_law_508 : decode cL_law 508 = .ok (.iaload, 1) := by decide +kernel
theorem dL_law_509 : decode cL_law 509 = .ok (.aload_n 0, 1) := by decide +kernel
theorem dL_law_510 : decode cL_law 510 = .ok (.iload_n 3, 1) := by decide +kernel
theorem dL_law_511 : decode cL_law 511 = .ok (.iconst 2, 1) := by decide +kernel
theorem dL_law_512 : decode cL_law 512 = .ok (.iadd, 1) := by decide +kernel
theorem dL_law_513 : decode cL_law 513 = .ok (.iaload, 1) := by decide +kernel
theorem dL_law_514 : decode cL_law 514 = .ok (.invokevirtual 64, 3) := by decide +kernel
theorem dL_law_517 : decode cL_law 517 = .ok (.if_icmp .eq 987, 3) := by decide +kernel
theorem dL_law_520 : decode cL_law 520 = .ok (.iconst 0, 1) := by decide +kernel
theorem dL_law_521 : decode cL_law 521 = .ok (.ireturn, 1) := by decide +kernel
theorem dL_law_522 : decode cL_law 522 = .ok (.aload_n 1, 1) := by decide +kernel
theorem dL_law_523 : decode cL_law 523 = .ok (.aload_n 0, 1) := by decide +kernel
theorem dL_law_524 : decode cL_law 524 = .ok (.iload_n 3, 1) := by decide +kernel
theorem dL_law_525 : decode cL_law 525 = .ok (.iconst 1, 1) := by decide +kernel
theorem dL_law_526 : decode cL_law 526 = .ok (.iadd, 1) := by decide +kernel
theorem dL_law_527 : decode cL_law 527 = .ok (.iaload, 1) := by decide +kernel
theorem dL_law_528 : decode cL_law 528 = .ok (.aload_n 0, 1) := by decide +kernel
theorem dL_law_529 : decode cL_law 529 = .ok (.iload_n 3, 1) := by decide +kernel
theorem dL_law_530 : decode cL_law 530 = .ok (.iconst 2, 1) := by decide +kernel
theorem dL_law_531 : decode cL_law 531 = .ok (.iadd, 1) := by decide +kernel
theorem dL_law_532 : decode cL_law 532 = .ok (.iaload, 1) := by decide +kernel
theorem dL_law_533 : decode cL_law 533 = .ok (.invokevirtual 65, 3) := by decide +kernel
theorem dL_law_536 : decode cL_law 536 = .ok (.aload_n 2, 1) := by decide +kernel
theorem dL_law_537 : decode cL_law 537 = .ok (.aload_n 0, 1) := by decide +kernel
theorem dL_law_538 : decode cL_law 538 = .ok (.iload_n 3, 1) := by decide +kernel
theorem dL_law_539 : decode cL_law 539 = .ok (.iconst 1, 1) := by decide +kernel
theorem dL_law_540 : decode cL_law 540 = .ok (.iadd, 1) := by decide +kernel
theorem dL_law_541 : decode cL_law 541 = .ok (.iaload, 1) := by decide +kernel
theorem dL_law_542 : decode cL_law 542 = .ok (.aload_n 0, 1) := by decide +kernel
theorem dL_law_543 : decode cL_law 543 = .ok (.iload_n 3, 1) := by decide +kernel
theorem dL_law_544 : decode cL_law 544 = .ok (.iconst 2, 1) := by decide +kernel
theorem dL_law_545 : decode cL_law 545 = .ok (.iadd, 1) := by decide +kernel
theorem dL_law_546 : decode cL_law 546 = .ok (.iaload, 1) := by decide +kernel
theorem dL_law_547 : decode cL_law 547 = .ok (.invokevirtual 68, 3) := by decide +kernel
theorem dL_law_550 : decode cL_law 550 = .ok (.if_icmp .eq 954, 3) := by decide +kernel
theorem dL_law_553 : decode cL_law 553 = .ok (.iconst 0, 1) := by decide +kernel
theorem dL_law_554 : decode cL_law 554 = .ok (.ireturn, 1) := by decide +kernel
theorem dL_law_555 : decode cL_law 555 = .ok (.aload_n 1, 1) := by decide +kernel
theorem dL_law_556 : decode cL_law 556 = .ok (.aload_n 0, 1) := by decide +kernel
theorem dL_law_557 : decode cL_law 557 = .ok (.iload_n 3, 1) := by decide +kernel
theorem dL_law_558 : decode cL_law 558 = .ok (.iconst 1, 1) := by decide +kernel
theorem dL_law_559 : decode cL_law 559 = .ok (.iadd, 1) := by decide +kernel
theorem dL_law_560 : decode cL_law 560 = .ok (.iaload, 1) := by decide +kernel
theorem dL_law_561 : decode cL_law 561 = .ok (.aload_n 0, 1) := by decide +kernel
theorem dL_law_562 : decode cL_law 562 = .ok (.iload_n 3, 1) := by decide +kernel
theorem dL_law_563 : decode cL_law 563 = .ok (.iconst 2, 1) := by decide +kernel
theorem dL_law_564 : decode cL_law 564 = .ok (.iadd, 1) := by decide +kernel
theorem dL_law_565 : decode cL_law 565 = .ok (.iaload, 1) := by decide +kernel
theorem dL_law_566 : decode cL_law 566 = .ok (.invokevirtual 69, 3) := by decide +kernel
theorem dL_law_569 : decode cL_law 569 = .ok (.aload_n 2, 1) := by decide +kernel
theorem dL_law_570 : decode cL_law 570 = .ok (.aload_n 0, 1) := by decide +kernel
theorem dL_law_571 : decode cL_law 571 = .ok (.iload_n 3, 1) := by decide +kernel
theorem dL_law_572 : decode cL_law 572 = .ok (.iconst 1, 1) := by decide +kernel
theorem dL_law_573 : decode cL_law 573 = .ok (.iadd, 1) := by decide +kernel
theorem dL_law_574 : decode cL_law 574 = .ok (.iaload, 1) := by decide +kernel
theorem dL_law_575 : decode cL_law 575 = .ok (.aload_n 0, 1) := by decide +kernel
theorem dL_law_576 : decode cL_law 576 = .ok (.iload_n 3, 1) := by decide +kernel
theorem dL_law_577 : decode cL_law 577 = .ok (.iconst 2, 1) := by decide +kernel
theorem dL_law_578 : decode cL_law 578 = .ok (.iadd, 1) := by decide +kernel
theorem dL_law_579 : decode cL_law 579 = .ok (.iaload, 1) := by decide +kernel
theorem dL_law_580 : decode cL_law 580 = .ok (.invokevirtual 72, 3) := by decide +kernel
theorem dL_law_583 : decode cL_law 583 = .ok (.if_icmp .eq 921, 3) := by decide +kernel
theorem dL_law_586 : decode cL_law 586 = .ok (.iconst 0, 1) := by decide +kernel
theorem dL_law_587 : decode cL_law 587 = .ok (.ireturn, 1) := by decide +kernel
theorem dL_law_588 : decode cL_law 588 = .ok (.aload_n 1, 1) := by decide +kernel
theorem dL_law_589 : decode cL_law 589 = .ok (.aload_n 0, 1) := by decide +kernel
theorem dL_law_590 : decode cL_law 590 = .ok (.iload_n 3, 1) := by decide +kernel
theorem dL_law_591 : decode cL_law 591 = .ok (.iconst 1, 1) := by decide +kernel
theorem dL_law_592 : decode cL_law 592 = .ok (.iadd, 1) := by decide +kernel
theorem dL_law_593 : decode cL_law 593 = .ok (.iaload, 1) := by decide +kernel
theorem dL_law_594 : decode cL_law 594 = .ok (.aload_n 0, 1) := by decide +kernel
theorem dL_law_595 : decode cL_law 595 = .ok (.iload_n 3, 1) := by decide +kernel
theorem dL_law_596 : decode cL_law 596 = .ok (.iconst 2, 1) := by decide +kernel
theorem dL_law_597 : decode cL_law 597 = .ok (.iadd, 1) := by decide +kernel
theorem dL_law_598 : decode cL_law 598 = .ok (.iaload, 1) := by decide +kernel
theorem dL_law_599 : decode cL_law 599 = .ok (.aload_n 0, 1) := by decide +kernel
theorem dL_law_600 : decode cL_law 600 = .ok (.iload_n 3, 1) := by decide +kernel
theorem dL_law_601 : decode cL_law 601 = .ok (.iconst 3, 1) := by decide +kernel
theorem dL_law_602 : decode cL_law 602 = .ok (.iadd, 1) := by decide +kernel
theorem dL_law_603 : decode cL_law 603 = .ok (.iaload, 1) := by decide +kernel
theorem dL_law_604 : decode cL_law 604 = .ok (.invokevirtual 73, 3) := by decide +kernel
theorem dL_law_607 : decode cL_law 607 = .ok (.aload_n 2, 1) := by decide +kernel
theorem dL_law_608 : decode cL_law 608 = .ok (.aload_n 0, 1) := by decide +kernel
theorem dL_law_609 : decode cL_law 609 = .ok (.iload_n 3, 1) := by decide +kernel
theorem dL_law_610 : decode cL_law 610 = .ok (.iconst 1, 1) := by decide +kernel
theorem dL_law_611 : decode cL_law 611 = .ok (.iadd, 1) := by decide +kernel
theorem dL_law_612 : decode cL_law 612 = .ok (.iaload, 1) := by decide +kernel
theorem dL_law_613 : decode cL_law 613 = .ok (.aload_n 0, 1) := by decide +kernel
theorem dL_law_614 : decode cL_law 614 = .ok (.iload_n 3, 1) := by decide +kernel
theorem dL_law_615 : decode cL_law 615 = .ok (.iconst 2, 1) := by decide +kernel
theorem dL_law_616 : decode cL_law 616 = .ok (.iadd, 1) := by decide +kernel
theorem dL_law_617 : decode cL_law 617 = .ok (.iaload, 1) := by decide +kernel
theorem dL_law_618 : decode cL_law 618 = .ok (.aload_n 0, 1) := by decide +kernel
theorem dL_law_619 : decode cL_law 619 = .ok (.iload_n 3, 1) := by decide +kernel
theorem dL_law_620 : decode cL_law 620 = .ok (.iconst 3, 1) := by decide +kernel
theorem dL_law_621 : decode cL_law 621 = .ok (.iadd, 1) := by decide +kernel
theorem dL_law_622 : decode cL_law 622 = .ok (.iaload, 1) := by decide +kernel
theorem dL_law_623 : decode cL_law 623 = .ok (.invokevirtual 76, 3) := by decide +kernel
theorem dL_law_626 : decode cL_law 626 = .ok (.if_icmp .eq 878, 3) := by decide +kernel
theorem dL_law_629 : decode cL_law 629 = .ok (.iconst 0, 1) := by decide +kernel
theorem dL_law_630 : decode cL_law 630 = .ok (.ireturn, 1) := by decide +kernel
theorem dL_law_631 : decode cL_law 631 = .ok (.aload_n 1, 1) := by decide +kernel
theorem dL_law_632 : decode cL_law 632 = .ok (.aload_n 0, 1) := by decide +kernel
theorem dL_law_633 : decode cL_law 633 = .ok (.iload_n 3, 1) := by decide +kernel
theorem dL_law_634 : decode cL_law 634 = .ok (.iconst 1, 1) := by decide +kernel
theorem dL_law_635 : decode cL_law 635 = .ok (.iadd, 1) := by decide +kernel
theorem dL_law_636 : decode cL_law 636 = .ok (.iaload, 1) := by decide +kernel
theorem dL_law_637 : decode cL_law 637 = .ok (.aload_n 0, 1) := by decide +kernel
theorem dL_law_638 : decode cL_law 638 = .ok (.iload_n 3, 1) := by decide +kernel
theorem dL_law_639 : decode cL_law 639 = .ok (.iconst 2, 1) := by decide +kernel
theorem dL_law_640 : decode cL_law 640 = .ok (.iadd, 1) := by decide +kernel
theorem dL_law_641 : decode cL_law 641 = .ok (.iaload, 1) := by decide +kernel
theorem dL_law_642 : decode cL_law 642 = .ok (.invokevirtual 77, 3) := by decide +kernel
theorem dL_law_645 : decode cL_law 645 = .ok (.aload_n 2, 1) := by decide +kernel
theorem dL_law_646 : decode cL_law 646 = .ok (.aload_n 0, 1) := by decide +kernel
theorem dL_law_647 : decode cL_law 647 = .ok (.iload_n 3, 1) := by decide +kernel
theorem dL_law_648 : decode cL_law 648 = .ok (.iconst 1, 1) := by decide +kernel
theorem dL_law_649 : decode cL_law 649 = .ok (.iadd, 1) := by decide +kernel
theorem dL_law_650 : decode cL_law 650 = .ok (.iaload, 1) := by decide +kernel
theorem dL_law_651 : decode cL_law 651 = .ok (.aload_n 0, 1) := by decide +kernel
theorem dL_law_652 : decode cL_law 652 = .ok (.iload_n 3, 1) := by decide +kernel
theorem dL_law_653 : decode cL_law 653 = .ok (.iconst 2, 1) := by decide +kernel
theorem dL_law_654 : decode cL_law 654 = .ok (.iadd, 1) := by decide +kernel
theorem dL_law_655 : decode cL_law 655 = .ok (.iaload, 1) := by decide +kernel
theorem dL_law_656 : decode cL_law 656 = .ok (.invokevirtual 80, 3) := by decide +kernel
theorem dL_law_659 : decode cL_law 659 = .ok (.if_icmp .eq 845, 3) := by decide +kernel
theorem dL_law_662 : decode cL_law 662 = .ok (.iconst 0, 1) := by decide +kernel
theorem dL_law_663 : decode cL_law 663 = .ok (.ireturn, 1) := by decide +kernel
theorem dL_law_664 : decode cL_law 664 = .ok (.aload_n 1, 1) := by decide +kernel
theorem dL_law_665 : decode cL_law 665 = .ok (.aload_n 0, 1) := by decide +kernel
theorem dL_law_666 : decode cL_law 666 = .ok (.iload_n 3, 1) := by decide +kernel
theorem dL_law_667 : decode cL_law 667 = .ok (.iconst 1, 1) := by decide +kernel
theorem dL_law_668 : decode cL_law 668 = .ok (.iadd, 1) := by decide +kernel
theorem dL_law_669 : decode cL_law 669 = .ok (.iaload, 1) := by decide +kernel
theorem dL_law_670 : decode cL_law 670 = .ok (.aload_n 0, 1) := by decide +kernel
theorem dL_law_671 : decode cL_law 671 = .ok (.iload_n 3, 1) := by decide +kernel
theorem dL_law_672 : decode cL_law 672 = .ok (.iconst 2, 1) := by decide +kernel
theorem dL_law_673 : decode cL_law 673 = .ok (.iadd, 1) := by decide +kernel
theorem dL_law_674 : decode cL_law 674 = .ok (.iaload, 1) := by decide +kernel
theorem dL_law_675 : decode cL_law 675 = .ok (.aload_n 0, 1) := by decide +kernel
theorem dL_law_676 : decode cL_law 676 = .ok (.iload_n 3, 1) := by decide +kernel
theorem dL_law_677 : decode cL_law 677 = .ok (.iconst 3, 1) := by decide +kernel
theorem dL_law_678 : decode cL_law 678 = .ok (.iadd, 1) := by decide +kernel
theorem dL_law_679 : decode cL_law 679 = .ok (.iaload, 1) := by decide +kernel
theorem dL_law_680 : decode cL_law 680 = .ok (.invokevirtual 81, 3) := by decide +kernel
theorem dL_law_683 : decode cL_law 683 = .ok (.aload_n 2, 1) := by decide +kernel
theorem dL_law_684 : decode cL_law 684 = .ok (.aload_n 0, 1) := by decide +kernel
theorem dL_law_685 : decode cL_law 685 = .ok (.iload_n 3, 1) := by decide +kernel
theorem dL_law_686 : decode cL_law 686 = .ok (.iconst 1, 1) := by decide +kernel
theorem dL_law_687 : decode cL_law 687 = .ok (.iadd, 1) := by decide +kernel
theorem dL_law_688 : decode cL_law 688 = .ok (.iaload, 1) := by decide +kernel
theorem dL_law_689 : decode cL_law 689 = .ok (.aload_n 0, 1) := by decide +kernel
theorem dL_law_690 : decode cL_law 690 = .ok (.iload_n 3, 1) := by decide +kernel
theorem dL_law_691 : decode cL_law 691 = .ok (.iconst 2, 1) := by decide +kernel
theorem dL_law_692 : decode cL_law 692 = .ok (.iadd, 1) := by decide +kernel
theorem dL_law_693 : decode cL_law 693 = .ok (.iaload, 1) := by decide +kernel
theorem dL_law_694 : decode cL_law 694 = .ok (.aload_n 0, 1) := by decide +kernel
theorem dL_law_695 : decode cL_law 695 = .ok (.iload_n 3, 1) := by decide +kernel
theorem dL_law_696 : decode cL_law 696 = .ok (.iconst 3, 1) := by decide +kernel
theorem dL_law_697 : decode cL_law 697 = .ok (.iadd, 1) := by decide +kernel
theorem dL_law_698 : decode cL_law 698 = .ok (.iaload, 1) := by decide +kernel
theorem dL_law_699 : decode cL_law 699 = .ok (.invokevirtual 84, 3) := by decide +kernel
theorem dL_law_702 : decode cL_law 702 = .ok (.if_icmp .eq 802, 3) := by decide +kernel
theorem dL_law_705 : decode cL_law 705 = .ok (.iconst 0, 1) := by decide +kernel
theorem dL_law_706 : decode cL_law 706 = .ok (.ireturn, 1) := by decide +kernel
theorem dL_law_707 : decode cL_law 707 = .ok (.aload_n 1, 1) := by decide +kernel
theorem dL_law_708 : decode cL_law 708 = .ok (.aload_n 0, 1) := by decide +kernel
theorem dL_law_709 : decode cL_law 709 = .ok (.iload_n 3, 1) := by decide +kernel
theorem dL_law_710 : decode cL_law 710 = .ok (.iconst 1, 1) := by decide +kernel
theorem dL_law_711 : decode cL_law 711 = .ok (.iadd, 1) := by decide +kernel
theorem dL_law_712 : decode cL_law 712 = .ok (.iaload, 1) := by decide +kernel
theorem dL_law_713 : decode cL_law 713 = .ok (.aload_n 0, 1) := by decide +kernel
theorem dL_law_714 : decode cL_law 714 = .ok (.iload_n 3, 1) := by decide +kernel
theorem dL_law_715 : decode cL_law 715 = .ok (.iconst 2, 1) := by decide +kernel
theorem dL_law_716 : decode cL_law 716 = .ok (.iadd, 1) := by decide +kernel
theorem dL_law_717 : decode cL_law 717 = .ok (.iaload, 1) := by decide +kernel
theorem dL_law_718 : decode cL_law 718 = .ok (.invokevirtual 85, 3) := by decide +kernel
theorem dL_law_721 : decode cL_law 721 = .ok (.aload_n 2, 1) := by decide +kernel
theorem dL_law_722 : decode cL_law 722 = .ok (.aload_n 0, 1) := by decide +kernel
theorem dL_law_723 : decode cL_law 723 = .ok (.iload_n 3, 1) := by decide +kernel
theorem dL_law_724 : decode cL_law 724 = .ok (.iconst 1, 1) := by decide +kernel
theorem dL_law_725 : decode cL_law 725 = .ok (.iadd, 1) := by decide +kernel
theorem dL_law_726 : decode cL_law 726 = .ok (.iaload, 1) := by decide +kernel
theorem dL_law_727 : decode cL_law 727 = .ok (.aload_n 0, 1) := by decide +kernel
theorem dL_law_728 : decode cL_law 728 = .ok (.iload_n 3, 1) := by decide +kernel
theorem dL_law_729 : decode cL_law 729 = .ok (.iconst 2, 1) := by decide +kernel
theorem dL_law_730 : decode cL_law 730 = .ok (.iadd, 1) := by decide +kernel
theorem dL_law_731 : decode cL_law 731 = .ok (.iaload, 1) := by decide +kernel
theorem dL_law_732 : decode cL_law 732 = .ok (.invokevirtual 88, 3) := by decide +kernel
theorem dL_law_735 : decode cL_law 735 = .ok (.if_icmp .eq 769, 3) := by decide +kernel
theorem dL_law_738 : decode cL_law 738 = .ok (.iconst 0, 1) := by decide +kernel
theorem dL_law_739 : decode cL_law 739 = .ok (.ireturn, 1) := by decide +kernel
theorem dL_law_740 : decode cL_law 740 = .ok (.aload_n 1, 1) := by decide +kernel
theorem dL_law_741 : decode cL_law 741 = .ok (.aload_n 0, 1) := by decide +kernel
theorem dL_law_742 : decode cL_law 742 = .ok (.iload_n 3, 1) := by decide +kernel
theorem dL_law_743 : decode cL_law 743 = .ok (.iconst 1, 1) := by decide +kernel
theorem dL_law_744 : decode cL_law 744 = .ok (.iadd, 1) := by decide +kernel
theorem dL_law_745 : decode cL_law 745 = .ok (.iaload, 1) := by decide +kernel
theorem dL_law_746 : decode cL_law 746 = .ok (.invokevirtual 89, 3) := by decide +kernel
theorem dL_law_749 : decode cL_law 749 = .ok (.aload_n 2, 1) := by decide +kernel
theorem dL_law_750 : decode cL_law 750 = .ok (.aload_n 0, 1) := by decide +kernel
theorem dL_law_751 : decode cL_law 751 = .ok (.iload_n 3, 1) := by decide +kernel
theorem dL_law_752 : decode cL_law 752 = .ok (.iconst 1, 1) := by decide +kernel
theorem dL_law_753 : decode cL_law 753 = .ok (.iadd, 1) := by decide +kernel
theorem dL_law_754 : decode cL_law 754 = .ok (.iaload, 1) := by decide +kernel
theorem dL_law_755 : decode cL_law 755 = .ok (.invokevirtual 92, 3) := by decide +kernel
theorem dL_law_758 : decode cL_law 758 = .ok (.if_icmp .eq 746, 3) := by decide +kernel
theorem dL_law_761 : decode cL_law 761 = .ok (.iconst 0, 1) := by decide +kernel
theorem dL_law_762 : decode cL_law 762 = .ok (.ireturn, 1) := by decide +kernel
theorem dL_law_763 : decode cL_law 763 = .ok (.aload_n 1, 1) := by decide +kernel
theorem dL_law_764 : decode cL_law 764 = .ok (.aload_n 0, 1) := by decide +kernel
theorem dL_law_765 : decode cL_law 765 = .ok (.iload_n 3, 1) := by decide +kernel
theorem dL_law_766 : decode cL_law 766 = .ok (.iconst 1, 1) := by decide +kernel
theorem dL_law_767 : decode cL_law 767 = .ok (.iadd, 1) := by decide +kernel
theorem dL_law_768 : decode cL_law 768 = .ok (.iaload, 1) := by decide +kernel
theorem dL_law_769 : decode cL_law 769 = .ok (.aload_n 0, 1) := by decide +kernel
theorem dL_law_770 : decode cL_law 770 = .ok (.iload_n 3, 1) := by decide +kernel
theorem dL_law_771 : decode cL_law 771 = .ok (.iconst 2, 1) := by decide +kernel
theorem dL_law_772 : decode cL_law 772 = .ok (.iadd, 1) := by decide +kernel
theorem dL_law_773 : decode cL_law 773 = .ok (.iaload, 1) := by decide +kernel
theorem dL_law_774 : decode cL_law 774 = .ok (.aload_n 0, 1) := by decide +kernel
theorem dL_law_775 : decode cL_law 775 = .ok (.iload_n 3, 1) := by decide +kernel
theorem dL_law_776 : decode cL_law 776 = .ok (.iconst 3, 1) := by decide +kernel
theorem dL_law_777 : decode cL_law 777 = .ok (.iadd, 1) := by decide +kernel
theorem dL_law_778 : decode cL_law 778 = .ok (.iaload, 1) := by decide +kernel
theorem dL_law_779 : decode cL_law 779 = .ok (.aload_n 0, 1) := by decide +kernel
theorem dL_law_780 : decode cL_law 780 = .ok (.iload_n 3, 1) := by decide +kernel
theorem dL_law_781 : decode cL_law 781 = .ok (.iconst 4, 1) := by decide +kernel
theorem dL_law_782 : decode cL_law 782 = .ok (.iadd, 1) := by decide +kernel
theorem dL_law_783 : decode cL_law 783 = .ok (.iaload, 1) := by decide +kernel
theorem dL_law_784 : decode cL_law 784 = .ok (.invokevirtual 93, 3) := by decide +kernel
theorem dL_law_787 : decode cL_law 787 = .ok (.aload_n 2, 1) := by decide +kernel
theorem dL_law_788 : decode cL_law 788 = .ok (.aload_n 0, 1) := by decide +kernel
theorem dL_law_789 : decode cL_law 789 = .ok (.iload_n 3, 1) := by decide +kernel
theorem dL_law_790 : decode cL_law 790 = .ok (.iconst 1, 1) := by decide +kernel
theorem dL_law_791 : decode cL_law 791 = .ok (.iadd, 1) := by decide +kernel
theorem dL_law_792 : decode cL_law 792 = .ok (.iaload, 1) := by decide +kernel
theorem dL_law_793 : decode cL_law 793 = .ok (.aload_n 0, 1) := by decide +kernel
theorem dL_law_794 : decode cL_law 794 = .ok (.iload_n 3, 1) := by decide +kernel
theorem dL_law_795 : decode cL_law 795 = .ok (.iconst 2, 1) := by decide +kernel
theorem dL_law_796 : decode cL_law 796 = .ok (.iadd, 1) := by decide +kernel
theorem dL_law_797 : decode cL_law 797 = .ok (.iaload, 1) := by decide +kernel
theorem dL_law_798 : decode cL_law 798 = .ok (.aload_n 0, 1) := by decide +kernel
theorem dL_law_799 : decode cL_law 799 = .ok (.iload_n 3, 1) := by decide +kernel
theorem dL_law_800 : decode cL_law 800 = .ok (.iconst 3, 1) := by decide +kernel
theorem dL_law_801 : decode cL_law 801 = .ok (.iadd, 1) := by decide +kernel
theorem dL_law_802 : decode cL_law 802 = .ok (.iaload, 1) := by decide +kernel
theorem dL_law_803 : decode cL_law 803 = .ok (.aload_n 0, 1) := by decide +kernel
theorem dL_law_804 : decode cL_law 804 = .ok (.iload_n 3, 1) := by decide +kernel
theorem dL_law_805 : decode cL_law 805 = .ok (.iconst 4, 1) := by decide +kernel
theorem dL_law_806 : decode cL_law 806 = .ok (.iadd, 1) := by decide +kernel
theorem dL_law_807 : decode cL_law 807 = .ok (.iaload, 1) := by decide +kernel
theorem dL_law_808 : decode cL_law 808 = .ok (.invokevirtual 97, 3) := by decide +kernel
theorem dL_law_811 : decode cL_law 811 = .ok (.if_icmp .eq 693, 3) := by decide +kernel
theorem dL_law_814 : decode cL_law 814 = .ok (.iconst 0, 1) := by decide +kernel
theorem dL_law_815 : decode cL_law 815 = .ok (.ireturn, 1) := by decide +kernel
theorem dL_law_816 : decode cL_law 816 = .ok (.aload_n 1, 1) := by decide +kernel
theorem dL_law_817 : decode cL_law 817 = .ok (.aload_n 0, 1) := by decide +kernel
theorem dL_law_818 : decode cL_law 818 = .ok (.iload_n 3, 1) := by decide +kernel
theorem dL_law_819 : decode cL_law 819 = .ok (.iconst 1, 1) := by decide +kernel
theorem dL_law_820 : decode cL_law 820 = .ok (.iadd, 1) := by decide +kernel
theorem dL_law_821 : decode cL_law 821 = .ok (.iaload, 1) := by decide +kernel
theorem dL_law_822 : decode cL_law 822 = .ok (.aload_n 0, 1) := by decide +kernel
theorem dL_law_823 : decode cL_law 823 = .ok (.iload_n 3, 1) := by decide +kernel
theorem dL_law_824 : decode cL_law 824 = .ok (.iconst 2, 1) := by decide +kernel
theorem dL_law_825 : decode cL_law 825 = .ok (.iadd, 1) := by decide +kernel
theorem dL_law_826 : decode cL_law 826 = .ok (.iaload, 1) := by decide +kernel
theorem dL_law_827 : decode cL_law 827 = .ok (.aload_n 0, 1) := by decide +kernel
theorem dL_law_828 : decode cL_law 828 = .ok (.iload_n 3, 1) := by decide +kernel
theorem dL_law_829 : decode cL_law 829 = .ok (.iconst 3, 1) := by decide +kernel
theorem dL_law_830 : decode cL_law 830 = .ok (.iadd, 1) := by decide +kernel
theorem dL_law_831 : decode cL_law 831 = .ok (.iaload, 1) := by decide +kernel
theorem dL_law_832 : decode cL_law 832 = .ok (.invokevirtual 98, 3) := by decide +kernel
theorem dL_law_835 : decode cL_law 835 = .ok (.aload_n 2, 1) := by decide +kernel
theorem dL_law_836 : decode cL_law 836 = .ok (.aload_n 0, 1) := by decide +kernel
theorem dL_law_837 : decode cL_law 837 = .ok (.iload_n 3, 1) := by decide +kernel
theorem dL_law_838 : decode cL_law 838 = .ok (.iconst 1, 1) := by decide +kernel
theorem dL_law_839 : decode cL_law 839 = .ok (.iadd, 1) := by decide +kernel
theorem dL_law_840 : decode cL_law 840 = .ok (.iaload, 1) := by decide +kernel
theorem dL_law_841 : decode cL_law 841 = .ok (.aload_n 0, 1) := by decide +kernel
theorem dL_law_842 : decode cL_law 842 = .ok (.iload_n 3, 1) := by decide +kernel
theorem dL_law_843 : decode cL_law 843 = .ok (.iconst 2, 1) := by decide +kernel
theorem dL_law_844 : decode cL_law 844 = .ok (.iadd, 1) := by decide +kernel
theorem dL_law_845 : decode cL_law 845 = .ok (.iaload, 1) := by decide +kernel
theorem dL_law_846 : decode cL_law 846 = .ok (.aload_n 0, 1) := by decide +kernel
theorem dL_law_847 : decode cL_law 847 = .ok (.iload_n 3, 1) := by decide +kernel
theorem dL_law_848 : decode cL_law 848 = .ok (.iconst 3, 1) := by decide +kernel
theorem dL_law_849 : decode cL_law 849 = .ok (.iadd, 1) := by decide +kernel
theorem dL_law_850 : decode cL_law 850 = .ok (.iaload, 1) := by decide +kernel
theorem dL_law_851 : decode cL_law 851 = .ok (.invokevirtual 101, 3) := by decide +kernel
theorem dL_law_854 : decode cL_law 854 = .ok (.if_icmp .eq 650, 3) := by decide +kernel
theorem dL_law_857 : decode cL_law 857 = .ok (.iconst 0, 1) := by decide +kernel
theorem dL_law_858 : decode cL_law 858 = .ok (.ireturn, 1) := by decide +kernel
theorem dL_law_859 : decode cL_law 859 = .ok (.aload_n 1, 1) := by decide +kernel
theorem dL_law_860 : decode cL_law 860 = .ok (.aload_n 0, 1) := by decide +kernel
theorem dL_law_861 : decode cL_law 861 = .ok (.iload_n 3, 1) := by decide +kernel
theorem dL_law_862 : decode cL_law 862 = .ok (.iconst 1, 1) := by decide +kernel
theorem dL_law_863 : decode cL_law 863 = .ok (.iadd, 1) := by decide +kernel
theorem dL_law_864 : decode cL_law 864 = .ok (.iaload, 1) := by decide +kernel
theorem dL_law_865 : decode cL_law 865 = .ok (.aload_n 0, 1) := by decide +kernel
theorem dL_law_866 : decode cL_law 866 = .ok (.iload_n 3, 1) := by decide +kernel
theorem dL_law_867 : decode cL_law 867 = .ok (.iconst 2, 1) := by decide +kernel
theorem dL_law_868 : decode cL_law 868 = .ok (.iadd, 1) := by decide +kernel
theorem dL_law_869 : decode cL_law 869 = .ok (.iaload, 1) := by decide +kernel
theorem dL_law_870 : decode cL_law 870 = .ok (.invokevirtual 102, 3) := by decide +kernel
theorem dL_law_873 : decode cL_law 873 = .ok (.aload_n 2, 1) := by decide +kernel
theorem dL_law_874 : decode cL_law 874 = .ok (.aload_n 0, 1) := by decide +kernel
theorem dL_law_875 : decode cL_law 875 = .ok (.iload_n 3, 1) := by decide +kernel
theorem dL_law_876 : decode cL_law 876 = .ok (.iconst 1, 1) := by decide +kernel
theorem dL_law_877 : decode cL_law 877 = .ok (.iadd, 1) := by decide +kernel
theorem dL_law_878 : decode cL_law 878 = .ok (.iaload, 1) := by decide +kernel
theorem dL_law_879 : decode cL_law 879 = .ok (.aload_n 0, 1) := by decide +kernel
theorem dL_law_880 : decode cL_law 880 = .ok (.iload_n 3, 1) := by decide +kernel
theorem dL_law_881 : decode cL_law 881 = .ok (.iconst 2, 1) := by decide +kernel
theorem dL_law_882 : decode cL_law 882 = .ok (.iadd, 1) := by decide +kernel
theorem dL_law_883 : decode cL_law 883 = .ok (.iaload, 1) := by decide +kernel
theorem dL_law_884 : decode cL_law 884 = .ok (.invokevirtual 105, 3) := by decide +kernel
theorem dL_law_887 : decode cL_law 887 = .ok (.if_icmp .eq 617, 3) := by decide +kernel
theorem dL_law_890 : decode cL_law 890 = .ok (.iconst 0, 1) := by decide +kernel
theorem dL_law_891 : decode cL_law 891 = .ok (.ireturn, 1) := by decide +kernel
theorem dL_law_892 : decode cL_law 892 = .ok (.aload_n 1, 1) := by decide +kernel
theorem dL_law_893 : decode cL_law 893 = .ok (.invokevirtual 106, 3) := by decide +kernel
theorem dL_law_896 : decode cL_law 896 = .ok (.aload_n 2, 1) := by decide +kernel
theorem dL_law_897 : decode cL_law 897 = .ok (.invokevirtual 109, 3) := by decide +kernel
theorem dL_law_900 : decode cL_law 900 = .ok (.if_icmp .eq 604, 3) := by decide +kernel
theorem dL_law_903 : decode cL_law 903 = .ok (.iconst 0, 1) := by decide +kernel
theorem dL_law_904 : decode cL_law 904 = .ok (.ireturn, 1) := by decide +kernel
theorem dL_law_905 : decode cL_law 905 = .ok (.aload_n 1, 1) := by decide +kernel
theorem dL_law_906 : decode cL_law 906 = .ok (.aload_n 0, 1) := by decide +kernel
theorem dL_law_907 : decode cL_law 907 = .ok (.iload_n 3, 1) := by decide +kernel
theorem dL_law_908 : decode cL_law 908 = .ok (.iconst 1, 1) := by decide +kernel
theorem dL_law_909 : decode cL_law 909 = .ok (.iadd, 1) := by decide +kernel
theorem dL_law_910 : decode cL_law 910 = .ok (.iaload, 1) := by decide +kernel
theorem dL_law_911 : decode cL_law 911 = .ok (.invokevirtual 110, 3) := by decide +kernel
theorem dL_law_914 : decode cL_law 914 = .ok (.aload_n 2, 1) := by decide +kernel
theorem dL_law_915 : decode cL_law 915 = .ok (.aload_n 0, 1) := by decide +kernel
theorem dL_law_916 : decode cL_law 916 = .ok (.iload_n 3, 1) := by decide +kernel
theorem dL_law_917 : decode cL_law 917 = .ok (.iconst 1, 1) := by decide +kernel
theorem dL_law_918 : decode cL_law 918 = .ok (.iadd, 1) := by decide +kernel
theorem dL_law_919 : decode cL_law 919 = .ok (.iaload, 1) := by decide +kernel
theorem dL_law_920 : decode cL_law 920 = .ok (.invokevirtual 113, 3) := by decide +kernel
theorem dL_law_923 : decode cL_law 923 = .ok (.if_icmp .eq 581, 3) := by decide +kernel
theorem dL_law_926 : decode cL_law 926 = .ok (.iconst 0, 1) := by decide +kernel
theorem dL_law_927 : decode cL_law 927 = .ok (.ireturn, 1) := by decide +kernel
theorem dL_law_928 : decode cL_law 928 = .ok (.aload_n 1, 1) := by decide +kernel
theorem dL_law_929 : decode cL_law 929 = .ok (.aload_n 0, 1) := by decide +kernel
theorem dL_law_930 : decode cL_law 930 = .ok (.iload_n 3, 1) := by decide +kernel
theorem dL_law_931 : decode cL_law 931 = .ok (.iconst 1, 1) := by decide +kernel
theorem dL_law_932 : decode cL_law 932 = .ok (.iadd, 1) := by decide +kernel
theorem dL_law_933 : decode cL_law 933 = .ok (.iaload, 1) := by decide +kernel
theorem dL_law_934 : decode cL_law 934 = .ok (.aload_n 0, 1) := by decide +kernel
theorem dL_law_935 : decode cL_law 935 = .ok (.iload_n 3, 1) := by decide +kernel
theorem dL_law_936 : decode cL_law 936 = .ok (.iconst 2, 1) := by decide +kernel
theorem dL_law_937 : decode cL_law 937 = .ok (.iadd, 1) := by decide +kernel
theorem dL_law_938 : decode cL_law 938 = .ok (.iaload, 1) := by decide +kernel
theorem dL_law_939 : decode cL_law 939 = .ok (.aload_n 0, 1) := by decide +kernel
theorem dL_law_940 : decode cL_law 940 = .ok (.iload_n 3, 1) := by decide +kernel
theorem dL_law_941 : decode cL_law 941 = .ok (.iconst 3, 1) := by decide +kernel
theorem dL_law_942 : decode cL_law 942 = .ok (.iadd, 1) := by decide +kernel
theorem dL_law_943 : decode cL_law 943 = .ok (.iaload, 1) := by decide +kernel
theorem dL_law_944 : decode cL_law 944 = .ok (.aload_n 0, 1) := by decide +kernel
theorem dL_law_945 : decode cL_law 945 = .ok (.iload_n 3, 1) := by decide +kernel
theorem dL_law_946 : decode cL_law 946 = .ok (.iconst 4, 1) := by decide +kernel
theorem dL_law_947 : decode cL_law 947 = .ok (.iadd, 1) := by decide +kernel
theorem dL_law_948 : decode cL_law 948 = .ok (.iaload, 1) := by decide +kernel
theorem dL_law_949 : decode cL_law 949 = .ok (.invokevirtual 114, 3) := by decide +kernel
theorem dL_law_952 : decode cL_law 952 = .ok (.aload_n 2, 1) := by decide +kernel
theorem dL_law_953 : decode cL_law 953 = .ok (.aload_n 0, 1) := by decide +kernel
theorem dL_law_954 : decode cL_law 954 = .ok (.iload_n 3, 1) := by decide +kernel
theorem dL_law_955 : decode cL_law 955 = .ok (.iconst 1, 1) := by decide +kernel
theorem dL_law_956 : decode cL_law 956 = .ok (.iadd, 1) := by decide +kernel
theorem dL_law_957 : decode cL_law 957 = .ok (.iaload, 1) := by decide +kernel
theorem dL_law_958 : decode cL_law 958 = .ok (.aload_n 0, 1) := by decide +kernel
theorem dL_law_959 : decode cL_law 959 = .ok (.iload_n 3, 1) := by decide +kernel
theorem dL_law_960 : decode cL_law 960 = .ok (.iconst 2, 1) := by decide +kernel
theorem dL_law_961 : decode cL_law 961 = .ok (.iadd, 1) := by decide +kernel
theorem dL_law_962 : decode cL_law 962 = .ok (.iaload, 1) := by decide +kernel
theorem dL_law_963 : decode cL_law 963 = .ok (.aload_n 0, 1) := by decide +kernel
theorem dL_law_964 : decode cL_law 964 = .ok (.iload_n 3, 1) := by decide +kernel
theorem dL_law_965 : decode cL_law 965 = .ok (.iconst 3, 1) := by decide +kernel
theorem dL_law_966 : decode cL_law 966 = .ok (.iadd, 1) := by decide +kernel
theorem dL_law_967 : decode cL_law 967 = .ok (.iaload, 1) := by decide +kernel
theorem dL_law_968 : decode cL_law 968 = .ok (.aload_n 0, 1) := by decide +kernel
theorem dL_law_969 : decode cL_law 969 = .ok (.iload_n 3, 1) := by decide +kernel
theorem dL_law_970 : decode cL_law 970 = .ok (.iconst 4, 1) := by decide +kernel
theorem dL_law_971 : decode cL_law 971 = .ok (.iadd, 1) := by decide +kernel
theorem dL_law_972 : decode cL_law 972 = .ok (.iaload, 1) := by decide +kernel
theorem dL_law_973 : decode cL_law 973 = .ok (.invokevirtual 117, 3) := by decide +kernel
theorem dL_law_976 : decode cL_law 976 = .ok (.if_icmp .eq 528, 3) := by decide +kernel
theorem dL_law_979 : decode cL_law 979 = .ok (.iconst 0, 1) := by decide +kernel
theorem dL_law_980 : decode cL_law 980 = .ok (.ireturn, 1) := by decide +kernel
theorem dL_law_981 : decode cL_law 981 = .ok (.aload_n 1, 1) := by decide +kernel
theorem dL_law_982 : decode cL_law 982 = .ok (.aload_n 0, 1) := by decide +kernel
theorem dL_law_983 : decode cL_law 983 = .ok (.iload_n 3, 1) := by decide +kernel
theorem dL_law_984 : decode cL_law 984 = .ok (.iconst 1, 1) := by decide +kernel
theorem dL_law_985 : decode cL_law 985 = .ok (.iadd, 1) := by decide +kernel
theorem dL_law_986 : decode cL_law 986 = .ok (.iaload, 1) := by decide +kernel
theorem dL_law_987 : decode cL_law 987 = .ok (.aload_n 0, 1) := by decide +kernel
theorem dL_law_988 : decode cL_law 988 = .ok (.iload_n 3, 1) := by decide +kernel
theorem dL_law_989 : decode cL_law 989 = .ok (.iconst 2, 1) := by decide +kernel
theorem dL_law_990 : decode cL_law 990 = .ok (.iadd, 1) := by decide +kernel
theorem dL_law_991 : decode cL_law 991 = .ok (.iaload, 1) := by decide +kernel
theorem dL_law_992 : decode cL_law 992 = .ok (.aload_n 0, 1) := by decide +kernel
theorem dL_law_993 : decode cL_law 993 = .ok (.iload_n 3, 1) := by decide +kernel
theorem dL_law_994 : decode cL_law 994 = .ok (.iconst 3, 1) := by decide +kernel
theorem dL_law_995 : decode cL_law 995 = .ok (.iadd, 1) := by decide +kernel
theorem dL_law_996 : decode cL_law 996 = .ok (.iaload, 1) := by decide +kernel
theorem dL_law_997 : decode cL_law 997 = .ok (.invokevirtual 118, 3) := by decide +kernel
theorem dL_law_1000 : decode cL_law 1000 = .ok (.aload_n 2, 1) := by decide +kernel
theorem dL_law_1001 : decode cL_law 1001 = .ok (.aload_n 0, 1) := by decide +kernel
theorem dL_law_1002 : decode cL_law 1002 = .ok (.iload_n 3, 1) := by decide +kernel
theorem dL_law_1003 : decode cL_law 1003 = .ok (.iconst 1, 1) := by decide +kernel
theorem dL_law_1004 : decode cL_law 1004 = .ok (.iadd, 1) := by decide +kernel
theorem dL_law_1005 : decode cL_law 1005 = .ok (.iaload, 1) := by decide +kernel
theorem dL_law_1006 : decode cL_law 1006 = .ok (.aload_n 0, 1) := by decide +kernel
theorem dL_law_1007 : decode cL_law 1007 = .ok (.iload_n 3, 1) := by decide +kernel
theorem dL_law_1008 : decode cL_law 1008 = .ok (.iconst 2, 1) := by decide +kernel
theorem dL_law_1009 : decode cL_law 1009 = .ok (.iadd, 1) := by decide +kernel
theorem dL_law_1010 : decode cL_law 1010 = .ok (.iaload, 1) := by decide +kernel
theorem dL_law_1011 : decode cL_law 1011 = .ok (.aload_n 0, 1) := by decide +kernel
theorem dL_law_1012 : decode cL_law 1012 = .ok (.iload_n 3, 1) := by decide +kernel
theorem dL_law_1013 : decode cL_law 1013 = .ok (.iconst 3, 1) := by decide +kernel
theorem dL_law_1014 : decode cL_law 1014 = .ok (.iadd, 1) := by decide +kernel
theorem dL_law_1015 : decode cL_law 1015 = .ok (.iaload, 1) := by decide +kernel
theorem dL_law_1016 : decode cL_law 1016 = .ok (.invokevirtual 121, 3) := by decide +kernel
theorem dL_law_1019 : decode cL_law 1019 = .ok (.if_icmp .eq 485, 3) := by decide +kernel
theorem dL_law_1022 : decode cL_law 1022 = .ok (.iconst 0, 1) := by decide +kernel
theorem dL_law_1023 : decode cL_law 1023 = .ok (.ireturn, 1) := by decide +kernel
theorem dL_law_1024 : decode cL_law 1024 = .ok (.aload_n 1, 1) := by decide +kernel
theorem dL_law_1025 : decode cL_law 1025 = .ok (.aload_n 0, 1) := by decide +kernel
theorem dL_law_1026 : decode cL_law 1026 = .ok (.iload_n 3, 1) := by decide +kernel
theorem dL_law_1027 : decode cL_law 1027 = .ok (.iconst 1, 1) := by decide +kernel
theorem dL_law_1028 : decode cL_law 1028 = .ok (.iadd, 1) := by decide +kernel
theorem dL_law_1029 : decode cL_law 1029 = .ok (.iaload, 1) := by decide +kernel
theorem dL_law_1030 : decode cL_law 1030 = .ok (.aload_n 0, 1) := by decide +kernel
theorem dL_law_1031 : decode cL_law 1031 = .ok (.iload_n 3, 1) := by decide +kernel
theorem dL_law_1032 : decode cL_law 1032 = .ok (.iconst 2, 1) := by decide +kernel
theorem dL_law_1033 : decode cL_law 1033 = .ok (.iadd, 1) := by decide +kernel
theorem dL_law_1034 : decode cL_law 1034 = .ok (.iaload, 1) := by decide +kernel
theorem dL_law_1035 : decode cL_law 1035 = .ok (.aload_n 0, 1) := by decide +kernel
theorem dL_law_1036 : decode cL_law 1036 = .ok (.iload_n 3, 1) := by decide +kernel
theorem dL_law_1037 : decode cL_law 1037 = .ok (.iconst 3, 1) := by decide +kernel
theorem dL_law_1038 : decode cL_law 1038 = .ok (.iadd, 1) := by decide +kernel
theorem dL_law_1039 : decode cL_law 1039 = .ok (.iaload, 1) := by decide +kernel
theorem dL_law_1040 : decode cL_law 1040 = .ok (.aload_n 0, 1) := by decide +kernel
theorem dL_law_1041 : decode cL_law 1041 = .ok (.iload_n 3, 1) := by decide +kernel
theorem dL_law_1042 : decode cL_law 1042 = .ok (.iconst 4, 1) := by decide +kernel
theorem dL_law_1043 : decode cL_law 1043 = .ok (.iadd, 1) := by decide +kernel
theorem dL_law_1044 : decode cL_law 1044 = .ok (.iaload, 1) := by decide +kernel
theorem dL_law_1045 : decode cL_law 1045 = .ok (.aload_n 0, 1) := by decide +kernel
theorem dL_law_1046 : decode cL_law 1046 = .ok (.iload_n 3, 1) := by decide +kernel
theorem dL_law_1047 : decode cL_law 1047 = .ok (.iconst 5, 1) := by decide +kernel
theorem dL_law_1048 : decode cL_law 1048 = .ok (.iadd, 1) := by decide +kernel
theorem dL_law_1049 : decode cL_law 1049 = .ok (.iaload, 1) := by decide +kernel
theorem dL_law_1050 : decode cL_law 1050 = .ok (.invokevirtual 122, 3) := by decide +kernel
theorem dL_law_1053 : decode cL_law 1053 = .ok (.aload_n 2, 1) := by decide +kernel
theorem dL_law_1054 : decode cL_law 1054 = .ok (.aload_n 0, 1) := by decide +kernel
theorem dL_law_1055 : decode cL_law 1055 = .ok (.iload_n 3, 1) := by decide +kernel
theorem dL_law_1056 : decode cL_law 1056 = .ok (.iconst 1, 1) := by decide +kernel
theorem dL_law_1057 : decode cL_law 1057 = .ok (.iadd, 1) := by decide +kernel
theorem dL_law_1058 : decode cL_law 1058 = .ok (.iaload, 1) := by decide +kernel
theorem dL_law_1059 : decode cL_law 1059 = .ok (.aload_n 0, 1) := by decide +kernel
theorem dL_law_1060 : decode cL_law 1060 = .ok (.iload_n 3, 1) := by decide +kernel
theorem dL_law_1061 : decode cL_law 1061 = .ok (.iconst 2, 1) := by decide +kernel
theorem dL_law_1062 : decode cL_law 1062 = .ok (.iadd, 1) := by decide +kernel
theorem dL_law_1063 : decode cL_law 1063 = .ok (.iaload, 1) := by decide +kernel
theorem dL_law_1064 : decode cL_law 1064 = .ok (.aload_n 0, 1) := by decide +kernel
theorem dL_law_1065 : decode cL_law 1065 = .ok (.iload_n 3, 1) := by decide +kernel
theorem dL_law_1066 : decode cL_law 1066 = .ok (.iconst 3, 1) := by decide +kernel
theorem dL_law_1067 : decode cL_law 1067 = .ok (.iadd, 1) := by decide +kernel
theorem dL_law_1068 : decode cL_law 1068 = .ok (.iaload, 1) := by decide +kernel
theorem dL_law_1069 : decode cL_law 1069 = .ok (.aload_n 0, 1) := by decide +kernel
theorem dL_law_1070 : decode cL_law 1070 = .ok (.iload_n 3, 1) := by decide +kernel
theorem dL_law_1071 : decode cL_law 1071 = .ok (.iconst 4, 1) := by decide +kernel
theorem dL_law_1072 : decode cL_law 1072 = .ok (.iadd, 1) := by decide +kernel
theorem dL_law_1073 : decode cL_law 1073 = .ok (.iaload, 1) := by decide +kernel
theorem dL_law_1074 : decode cL_law 1074 = .ok (.aload_n 0, 1) := by decide +kernel
theorem dL_law_1075 : decode cL_law 1075 = .ok (.iload_n 3, 1) := by decide +kernel
theorem dL_law_1076 : decode cL_law 1076 = .ok (.iconst 5, 1) := by decide +kernel
theorem dL_law_1077 : decode cL_law 1077 = .ok (.iadd, 1) := by decide +kernel
theorem dL_law_1078 : decode cL_law 1078 = .ok (.iaload, 1) := by decide +kernel
theorem dL_law_1079 : decode cL_law 1079 = .ok (.invokevirtual 126, 3) := by decide +kernel
theorem dL_law_1082 : decode cL_law 1082 = .ok (.if_icmp .eq 422, 3) := by decide +kernel
theorem dL_law_1085 : decode cL_law 1085 = .ok (.iconst 0, 1) := by decide +kernel
theorem dL_law_1086 : decode cL_law 1086 = .ok (.ireturn, 1) := by decide +kernel
theorem dL_law_1087 : decode cL_law 1087 = .ok (.aload_n 1, 1) := by decide +kernel
theorem dL_law_1088 : decode cL_law 1088 = .ok (.aload_n 0, 1) := by decide +kernel
theorem dL_law_1089 : decode cL_law 1089 = .ok (.iload_n 3, 1) := by decide +kernel
theorem dL_law_1090 : decode cL_law 1090 = .ok (.iconst 1, 1) := by decide +kernel
theorem dL_law_1091 : decode cL_law 1091 = .ok (.iadd, 1) := by decide +kernel
theorem dL_law_1092 : decode cL_law 1092 = .ok (.iaload, 1) := by decide +kernel
theorem dL_law_1093 : decode cL_law 1093 = .ok (.aload_n 0, 1) := by decide +kernel
theorem dL_law_1094 : decode cL_law 1094 = .ok (.iload_n 3, 1) := by decide +kernel
theorem dL_law_1095 : decode cL_law 1095 = .ok (.iconst 2, 1) := by decide +kernel
theorem dL_law_1096 : decode cL_law 1096 = .ok (.iadd, 1) := by decide +kernel
theorem dL_law_1097 : decode cL_law 1097 = .ok (.iaload, 1) := by decide +kernel
theorem dL_law_1098 : decode cL_law 1098 = .ok (.aload_n 0, 1) := by decide +kernel
theorem dL_law_1099 : decode cL_law 1099 = .ok (.iload_n 3, 1) := by decide +kernel
theorem dL_law_1100 : decode cL_law 1100 = .ok (.iconst 3, 1) := by decide +kernel
theorem dL_law_1101 : decode cL_law 1101 = .ok (.iadd, 1) := by decide +kernel
theorem dL_law_1102 : decode cL_law 1102 = .ok (.iaload, 1) := by decide +kernel
theorem dL_law_1103 : decode cL_law 1103 = .ok (.aload_n 0, 1) := by decide +kernel
theorem dL_law_1104 : decode cL_law 1104 = .ok (.iload_n 3, 1) := by decide +kernel
theorem dL_law_1105 : decode cL_law 1105 = .ok (.iconst 4, 1) := by decide +kernel
theorem dL_law_1106 : decode cL_law 1106 = .ok (.iadd, 1) := by decide +kernel
theorem dL_law_1107 : decode cL_law 1107 = .ok (.iaload, 1) := by decide +kernel
theorem dL_law_1108 : decode cL_law 1108 = .ok (.invokevirtual 127, 3) := by decide +kernel
theorem dL_law_1111 : decode cL_law 1111 = .ok (.aload_n 2, 1) := by decide +kernel
theorem dL_law_1112 : decode cL_law 1112 = .ok (.aload_n 0, 1) := by decide +kernel
theorem dL_law_1113 : decode cL_law 1113 = .ok (.iload_n 3, 1) := by decide +kernel
theorem dL_law_1114 : decode cL_law 1114 = .ok (.iconst 1, 1) := by decide +kernel
theorem dL_law_1115 : decode cL_law 1115 = .ok (.iadd, 1) := by decide +kernel
theorem dL_law_1116 : decode cL_law 1116 = .ok (.iaload, 1) := by decide +kernel
theorem dL_law_1117 : decode cL_law 1117 = .ok (.aload_n 0, 1) := by decide +kernel
theorem dL_law_1118 : decode cL_law 1118 = .ok (.iload_n 3, 1) := by decide +kernel
theorem dL_law_1119 : decode cL_law 1119 = .ok (.iconst 2, 1) := by decide +kernel
theorem dL_law_1120 : decode cL_law 1120 = .ok (.iadd, 1) := by decide +kernel
theorem dL_law_1121 : decode cL_law 1121 = .ok (.iaload, 1) := by decide +kernel
theorem dL_law_1122 : decode cL_law 1122 = .ok (.aload_n 0, 1) := by decide +kernel
theorem dL_law_1123 : decode cL_law 1123 = .ok (.iload_n 3, 1) := by decide +kernel
theorem dL_law_1124 : decode cL_law 1124 = .ok (.iconst 3, 1) := by decide +kernel
theorem dL_law_1125 : decode cL_law 1125 = .ok (.iadd, 1) := by decide +kernel
theorem dL_law_1126 : decode cL_law 1126 = .ok (.iaload, 1) := by decide +kernel
theorem dL_law_1127 : decode cL_law 1127 = .ok (.aload_n 0, 1) := by decide +kernel
theorem dL_law_1128 : decode cL_law 1128 = .ok (.iload_n 3, 1) := by decide +kernel
theorem dL_law_1129 : decode cL_law 1129 = .ok (.iconst 4, 1) := by decide +kernel
theorem dL_law_1130 : decode cL_law 1130 = .ok (.iadd, 1) := by decide +kernel
theorem dL_law_1131 : decode cL_law 1131 = .ok (.iaload, 1) := by decide +kernel
theorem dL_law_1132 : decode cL_law 1132 = .ok (.invokevirtual 130, 3) := by decide +kernel
theorem dL_law_1135 : decode cL_law 1135 = .ok (.if_icmp .eq 369, 3) := by decide +kernel
theorem dL_law_1138 : decode cL_law 1138 = .ok (.iconst 0, 1) := by decide +kernel
theorem dL_law_1139 : decode cL_law 1139 = .ok (.ireturn, 1) := by decide +kernel
theorem dL_law_1140 : decode cL_law 1140 = .ok (.aload_n 1, 1) := by decide +kernel
theorem dL_law_1141 : decode cL_law 1141 = .ok (.aload_n 0, 1) := by decide +kernel
theorem dL_law_1142 : decode cL_law 1142 = .ok (.iload_n 3, 1) := by decide +kernel
theorem dL_law_1143 : decode cL_law 1143 = .ok (.iconst 1, 1) := by decide +kernel
theorem dL_law_1144 : decode cL_law 1144 = .ok (.iadd, 1) := by decide +kernel
theorem dL_law_1145 : decode cL_law 1145 = .ok (.iaload, 1) := by decide +kernel
theorem dL_law_1146 : decode cL_law 1146 = .ok (.invokevirtual 131, 3) := by decide +kernel
theorem dL_law_1149 : decode cL_law 1149 = .ok (.aload_n 2, 1) := by decide +kernel
theorem dL_law_1150 : decode cL_law 1150 = .ok (.aload_n 0, 1) := by decide +kernel
theorem dL_law_1151 : decode cL_law 1151 = .ok (.iload_n 3, 1) := by decide +kernel
theorem dL_law_1152 : decode cL_law 1152 = .ok (.iconst 1, 1) := by decide +kernel
theorem dL_law_1153 : decode cL_law 1153 = .ok (.iadd, 1) := by decide +kernel
theorem dL_law_1154 : decode cL_law 1154 = .ok (.iaload, 1) := by decide +kernel
theorem dL_law_1155 : decode cL_law 1155 = .ok (.invokevirtual 134, 3) := by decide +kernel
theorem dL_law_1158 : decode cL_law 1158 = .ok (.if_icmp .eq 346, 3) := by decide +kernel
theorem dL_law_1161 : decode cL_law 1161 = .ok (.iconst 0, 1) := by decide +kernel
theorem dL_law_1162 : decode cL_law 1162 = .ok (.ireturn, 1) := by decide +kernel
theorem dL_law_1163 : decode cL_law 1163 = .ok (.aload_n 1, 1) := by decide +kernel
theorem dL_law_1164 : decode cL_law 1164 = .ok (.aload_n 0, 1) := by decide +kernel
theorem dL_law_1165 : decode cL_law 1165 = .ok (.iload_n 3, 1) := by decide +kernel
theorem dL_law_1166 : decode cL_law 1166 = .ok (.iconst 1, 1) := by decide +kernel
theorem dL_law_1167 : decode cL_law 1167 = .ok (.iadd, 1) := by decide +kernel
theorem dL_law_1168 : decode cL_law 1168 = .ok (.iaload, 1) := by decide +kernel
theorem dL_law_1169 : decode cL_law 1169 = .ok (.invokevirtual 135, 3) := by decide +kernel
theorem dL_law_1172 : decode cL_law 1172 = .ok (.aload_n 2, 1) := by decide +kernel
theorem dL_law_1173 : decode cL_law 1173 = .ok (.aload_n 0, 1) := by decide +kernel
theorem dL_law_1174 : decode cL_law 1174 = .ok (.iload_n 3, 1) := by decide +kernel
theorem dL_law_1175 : decode cL_law 1175 = .ok (.iconst 1, 1) := by decide +kernel
theorem dL_law_1176 : decode cL_law 1176 = .ok (.iadd, 1) := by decide +kernel
theorem dL_law_1177 : decode cL_law 1177 = .ok (.iaload, 1) := by decide +kernel
theorem dL_law_1178 : decode cL_law 1178 = .ok (.invokevirtual 138, 3) := by decide +kernel
theorem dL_law_1181 : decode cL_law 1181 = .ok (.if_icmp .eq 323, 3) := by decide +kernel
theorem dL_law_1184 : decode cL_law 1184 = .ok (.iconst 0, 1) := by decide +kernel
theorem dL_law_1185 : decode cL_law 1185 = .ok (.ireturn, 1) := by decide +kernel
theorem dL_law_1186 : decode cL_law 1186 = .ok (.aload_n 1, 1) := by decide +kernel
theorem dL_law_1187 : decode cL_law 1187 = .ok (.aload_n 0, 1) := by decide +kernel
theorem dL_law_1188 : decode cL_law 1188 = .ok (.iload_n 3, 1) := by decide +kernel
theorem dL_law_1189 : decode cL_law 1189 = .ok (.iconst 1, 1) := by decide +kernel
theorem dL_law_1190 : decode cL_law 1190 = .ok (.iadd, 1) := by decide +kernel
theorem dL_law_1191 : decode cL_law 1191 = .ok (.iaload, 1) := by decide +kernel
theorem dL_law_1192 : decode cL_law 1192 = .ok (.invokevirtual 139, 3) := by decide +kernel
theorem dL_law_1195 : decode cL_law 1195 = .ok (.aload_n 2, 1) := by decide +kernel
theorem dL_law_1196 : decode cL_law 1196 = .ok (.aload_n 0, 1) := by decide +kernel
theorem dL_law_1197 : decode cL_law 1197 = .ok (.iload_n 3, 1) := by decide +kernel
theorem dL_law_1198 : decode cL_law 1198 = .ok (.iconst 1, 1) := by decide +kernel
theorem dL_law_1199 : decode cL_law 1199 = .ok (.iadd, 1) := by decide +kernel
theorem dL_law_1200 : decode cL_law 1200 = .ok (.iaload, 1) := by decide +kernel
theorem dL_law_1201 : decode cL_law 1201 = .ok (.invokevirtual 142, 3) := by decide +kernel
theorem dL_law_1204 : decode cL_law 1204 = .ok (.if_icmp .eq 300, 3) := by decide +kernel
theorem dL_law_1207 : decode cL_law 1207 = .ok (.iconst 0, 1) := by decide +kernel
theorem dL_law_1208 : decode cL_law 1208 = .ok (.ireturn, 1) := by decide +kernel
theorem dL_law_1209 : decode cL_law 1209 = .ok (.aload_n 1, 1) := by decide +kernel
theorem dL_law_1210 : decode cL_law 1210 = .ok (.aload_n 0, 1) := by decide +kernel
theorem dL_law_1211 : decode cL_law 1211 = .ok (.iload_n 3, 1) := by decide +kernel
theorem dL_law_1212 : decode cL_law 1212 = .ok (.iconst 1, 1) := by decide +kernel
theorem dL_law_1213 : decode cL_law 1213 = .ok (.iadd, 1) := by decide +kernel
theorem dL_law_1214 : decode cL_law 1214 = .ok (.iaload, 1) := by decide +kernel
theorem dL_law_1215 : decode cL_law 1215 = .ok (.invokevirtual 143, 3) := by decide +kernel
theorem dL_law_1218 : decode cL_law 1218 = .ok (.aload_n 2, 1) := by decide +kernel
theorem dL_law_1219 : decode cL_law 1219 = .ok (.aload_n 0, 1) := by decide +kernel
theorem dL_law_1220 : decode cL_law 1220 = .ok (.iload_n 3, 1) := by decide +kernel
theorem dL_law_1221 : decode cL_law 1221 = .ok (.iconst 1, 1) := by decide +kernel
theorem dL_law_1222 : decode cL_law 1222 = .ok (.iadd, 1) := by decide +kernel
theorem dL_law_1223 : decode cL_law 1223 = .ok (.iaload, 1) := by decide +kernel
theorem dL_law_1224 : decode cL_law 1224 = .ok (.invokevirtual 146, 3) := by decide +kernel
theorem dL_law_1227 : decode cL_law 1227 = .ok (.if_icmp .eq 277, 3) := by decide +kernel
theorem dL_law_1230 : decode cL_law 1230 = .ok (.iconst 0, 1) := by decide +kernel
theorem dL_law_1231 : decode cL_law 1231 = .ok (.ireturn, 1) := by decide +kernel
theorem dL_law_1232 : decode cL_law 1232 = .ok (.aload_n 1, 1) := by decide +kernel
theorem dL_law_1233 : decode cL_law 1233 = .ok (.aload_n 0, 1) := by decide +kernel
theorem dL_law_1234 : decode cL_law 1234 = .ok (.iload_n 3, 1) := by decide +kernel
theorem dL_law_1235 : decode cL_law 1235 = .ok (.iconst 1, 1) := by decide +kernel
theorem dL_law_1236 : decode cL_law 1236 = .ok (.iadd, 1) := by decide +kernel
theorem dL_law_1237 : decode cL_law 1237 = .ok (.iaload, 1) := by decide +kernel
theorem dL_law_1238 : decode cL_law 1238 = .ok (.invokevirtual 147, 3) := by decide +kernel
theorem dL_law_1241 : decode cL_law 1241 = .ok (.aload_n 2, 1) := by decide +kernel
theorem dL_law_1242 : decode cL_law 1242 = .ok (.aload_n 0, 1) := by decide +kernel
theorem dL_law_1243 : decode cL_law 1243 = .ok (.iload_n 3, 1) := by decide +kernel
theorem dL_law_1244 : decode cL_law 1244 = .ok (.iconst 1, 1) := by decide +kernel
theorem dL_law_1245 : decode cL_law 1245 = .ok (.iadd, 1) := by decide +kernel
theorem dL_law_1246 : decode cL_law 1246 = .ok (.iaload, 1) := by decide +kernel
theorem dL_law_1247 : decode cL_law 1247 = .ok (.invokevirtual 150, 3) := by decide +kernel
theorem dL_law_1250 : decode cL_law 1250 = .ok (.if_icmp .eq 254, 3) := by decide +kernel
theorem dL_law_1253 : decode cL_law 1253 = .ok (.iconst 0, 1) := by decide +kernel
theorem dL_law_1254 : decode cL_law 1254 = .ok (.ireturn, 1) := by decide +kernel
theorem dL_law_1255 : decode cL_law 1255 = .ok (.aload_n 1, 1) := by decide +kernel
theorem dL_law_1256 : decode cL_law 1256 = .ok (.aload_n 0, 1) := by decide +kernel
theorem dL_law_1257 : decode cL_law 1257 = .ok (.iload_n 3, 1) := by decide +kernel
theorem dL_law_1258 : decode cL_law 1258 = .ok (.iconst 1, 1) := by decide +kernel
theorem dL_law_1259 : decode cL_law 1259 = .ok (.iadd, 1) := by decide +kernel
theorem dL_law_1260 : decode cL_law 1260 = .ok (.iaload, 1) := by decide +kernel
theorem dL_law_1261 : decode cL_law 1261 = .ok (.aload_n 0, 1) := by decide +kernel
theorem dL_law_1262 : decode cL_law 1262 = .ok (.iload_n 3, 1) := by decide +kernel
theorem dL_law_1263 : decode cL_law 1263 = .ok (.iconst 2, 1) := by decide +kernel
theorem dL_law_1264 : decode cL_law 1264 = .ok (.iadd, 1) := by decide +kernel
theorem dL_law_1265 : decode cL_law 1265 = .ok (.iaload, 1) := by decide +kernel
theorem dL_law_1266 : decode cL_law 1266 = .ok (.aload_n 0, 1) := by decide +kernel
theorem dL_law_1267 : decode cL_law 1267 = .ok (.iload_n 3, 1) := by decide +kernel
theorem dL_law_1268 : decode cL_law 1268 = .ok (.iconst 3, 1) := by decide +kernel
theorem dL_law_1269 : decode cL_law 1269 = .ok (.iadd, 1) := by decide +kernel
theorem dL_law_1270 : decode cL_law 1270 = .ok (.iaload, 1) := by decide +kernel
theorem dL_law_1271 : decode cL_law 1271 = .ok (.invokevirtual 151, 3) := by decide +kernel
theorem dL_law_1274 : decode cL_law 1274 = .ok (.aload_n 2, 1) := by decide +kernel
theorem dL_law_1275 : decode cL_law 1275 = .ok (.aload_n 0, 1) := by decide +kernel
theorem dL_law_1276 : decode cL_law 1276 = .ok (.iload_n 3, 1) := by decide +kernel
theorem dL_law_1277 : decode cL_law 1277 = .ok (.iconst 1, 1) := by decide +kernel
theorem dL_law_1278 : decode cL_law 1278 = .ok (.iadd, 1) := by decide +kernel
theorem dL_law_1279 : decode cL_law 1279 = .ok (.iaload, 1) := by decide +kernel
theorem dL_law_1280 : decode cL_law 1280 = .ok (.aload_n 0, 1) := by decide +kernel
theorem dL_law_1281 : decode cL_law 1281 = .ok (.iload_n 3, 1) := by decide +kernel
theorem dL_law_1282 : decode cL_law 1282 = .ok (.iconst 2, 1) := by decide +kernel
theorem dL_law_1283 : decode cL_law 1283 = .ok (.iadd, 1) := by decide +kernel
theorem dL_law_1284 : decode cL_law 1284 = .ok (.iaload, 1) := by decide +kernel
theorem dL_law_1285 : decode cL_law 1285 = .ok (.aload_n 0, 1) := by decide +kernel
theorem dL_law_1286 : decode cL_law 1286 = .ok (.iload_n 3, 1) := by decide +kernel
theorem dL_law_1287 : decode cL_law 1287 = .ok (.iconst 3, 1) := by decide +kernel
theorem dL_law_1288 : decode cL_law 1288 = .ok (.iadd, 1) := by decide +kernel
theorem dL_law_1289 : decode cL_law 1289 = .ok (.iaload, 1) := by decide +kernel
theorem dL_law_1290 : decode cL_law 1290 = .ok (.invokevirtual 154, 3) := by decide +kernel
theorem dL_law_1293 : decode cL_law 1293 = .ok (.if_icmp .eq 211, 3) := by decide +kernel
theorem dL_law_1296 : decode cL_law 1296 = .ok (.iconst 0, 1) := by decide +kernel
theorem dL_law_1297 : decode cL_law 1297 = .ok (.ireturn, 1) := by decide +kernel
theorem dL_law_1298 : decode cL_law 1298 = .ok (.aload_n 1, 1) := by decide +kernel
theorem dL_law_1299 : decode cL_law 1299 = .ok (.aload_n 0, 1) := by decide +kernel
theorem dL_law_1300 : decode cL_law 1300 = .ok (.iload_n 3, 1) := by decide +kernel
theorem dL_law_1301 : decode cL_law 1301 = .ok (.iconst 1, 1) := by decide +kernel
theorem dL_law_1302 : decode cL_law 1302 = .ok (.iadd, 1) := by decide +kernel
theorem dL_law_1303 : decode cL_law 1303 = .ok (.iaload, 1) := by decide +kernel
theorem dL_law_1304 : decode cL_law 1304 = .ok (.aload_n 0, 1) := by decide +kernel
theorem dL_law_1305 : decode cL_law 1305 = .ok (.iload_n 3, 1) := by decide +kernel
theorem dL_law_1306 : decode cL_law 1306 = .ok (.iconst 2, 1) := by decide +kernel
theorem dL_law_1307 : decode cL_law 1307 = .ok (.iadd, 1) := by decide +kernel
theorem dL_law_1308 : decode cL_law 1308 = .ok (.iaload, 1) := by decide +kernel
theorem dL_law_1309 : decode cL_law 1309 = .ok (.aload_n 0, 1) := by decide +kernel
theorem dL_law_1310 : decode cL_law 1310 = .ok (.iload_n 3, 1) := by decide +kernel
theorem dL_law_1311 : decode cL_law 1311 = .ok (.iconst 3, 1) := by decide +kernel
theorem dL_law_1312 : decode cL_law 1312 = .ok (.iadd, 1) := by decide +kernel
theorem dL_law_1313 : decode cL_law 1313 = .ok (.iaload, 1) := by decide +kernel
theorem dL_law_1314 : decode cL_law 1314 = .ok (.invokevirtual 155, 3) := by decide +kernel
theorem dL_law_1317 : decode cL_law 1317 = .ok (.aload_n 2, 1) := by decide +kernel
theorem dL_law_1318 : decode cL_law 1318 = .ok (.aload_n 0, 1) := by decide +kernel
theorem dL_law_1319 : decode cL_law 1319 = .ok (.iload_n 3, 1) := by decide +kernel
theorem dL_law_1320 : decode cL_law 1320 = .ok (.iconst 1, 1) := by decide +kernel
theorem dL_law_1321 : decode cL_law 1321 = .ok (.iadd, 1) := by decide +kernel
theorem dL_law_1322 : decode cL_law 1322 = .ok (.iaload, 1) := by decide +kernel
theorem dL_law_1323 : decode cL_law 1323 = .ok (.aload_n 0, 1) := by decide +kernel
theorem dL_law_1324 : decode cL_law 1324 = .ok (.iload_n 3, 1) := by decide +kernel
theorem dL_law_1325 : decode cL_law 1325 = .ok (.iconst 2, 1) := by decide +kernel
theorem dL_law_1326 : decode cL_law 1326 = .ok (.iadd, 1) := by decide +kernel
theorem dL_law_1327 : decode cL_law 1327 = .ok (.iaload, 1) := by decide +kernel
theorem dL_law_1328 : decode cL_law 1328 = .ok (.aload_n 0, 1) := by decide +kernel
theorem dL_law_1329 : decode cL_law 1329 = .ok (.iload_n 3, 1) := by decide +kernel
theorem dL_law_1330 : decode cL_law 1330 = .ok (.iconst 3, 1) := by decide +kernel
theorem dL_law_1331 : decode cL_law 1331 = .ok (.iadd, 1) := by decide +kernel
theorem dL_law_1332 : decode cL_law 1332 = .ok (.iaload, 1) := by decide +kernel
theorem dL_law_1333 : decode cL_law 1333 = .ok (.invokevirtual 158, 3) := by decide +kernel
theorem dL_law_1336 : decode cL_law 1336 = .ok (.if_icmp .eq 168, 3) := by decide +kernel
theorem dL_law_1339 : decode cL_law 1339 = .ok (.iconst 0, 1) := by decide +kernel
theorem dL_law_1340 : decode cL_law 1340 = .ok (.ireturn, 1) := by decide +kernel
theorem dL_law_1341 : decode cL_law 1341 = .ok (.aload_n 1, 1) := by decide +kernel
theorem dL_law_1342 : decode cL_law 1342 = .ok (.aload_n 0, 1) := by decide +kernel
theorem dL_law_1343 : decode cL_law 1343 = .ok (.iload_n 3, 1) := by decide +kernel
theorem dL_law_1344 : decode cL_law 1344 = .ok (.iconst 1, 1) := by decide +kernel
theorem dL_law_1345 : decode cL_law 1345 = .ok (.iadd, 1) := by decide +kernel
theorem dL_law_1346 : decode cL_law 1346 = .ok (.iaload, 1) := by decide +kernel
theorem dL_law_1347 : decode cL_law 1347 = .ok (.aload_n 0, 1) := by decide +kernel
theorem dL_law_1348 : decode cL_law 1348 = .ok (.iload_n 3, 1) := by decide +kernel
theorem dL_law_1349 : decode cL_law 1349 = .ok (.iconst 2, 1) := by decide +kernel
theorem dL_law_1350 : decode cL_law 1350 = .ok (.iadd, 1) := by decide +kernel
theorem dL_law_1351 : decode cL_law 1351 = .ok (.iaload, 1) := by decide +kernel
theorem dL_law_1352 : decode cL_law 1352 = .ok (.invokevirtual 159, 3) := by decide +kernel
theorem dL_law_1355 : decode cL_law 1355 = .ok (.aload_n 2, 1) := by decide +kernel
theorem dL_law_1356 : decode cL_law 1356 = .ok (.aload_n 0, 1) := by decide +kernel
theorem dL_law_1357 : decode cL_law 1357 = .ok (.iload_n 3, 1) := by decide +kernel
theorem dL_law_1358 : decode cL_law 1358 = .ok (.iconst 1, 1) := by decide +kernel
theorem dL_law_1359 : decode cL_law 1359 = .ok (.iadd, 1) := by decide +kernel
theorem dL_law_1360 : decode cL_law 1360 = .ok (.iaload, 1) := by decide +kernel
theorem dL_law_1361 : decode cL_law 1361 = .ok (.aload_n 0, 1) := by decide +kernel
theorem dL_law_1362 : decode cL_law 1362 = .ok (.iload_n 3, 1) := by decide +kernel
theorem dL_law_1363 : decode cL_law 1363 = .ok (.iconst 2, 1) := by decide +kernel
theorem dL_law_1364 : decode cL_law 1364 = .ok (.iadd, 1) := by decide +kernel
theorem dL_law_1365 : decode cL_law 1365 = .ok (.iaload, 1) := by decide +kernel
theorem dL_law_1366 : decode cL_law 1366 = .ok (.invokevirtual 162, 3) := by decide +kernel
theorem dL_law_1369 : decode cL_law 1369 = .ok (.if_icmp .eq 135, 3) := by decide +kernel
theorem dL_law_1372 : decode cL_law 1372 = .ok (.iconst 0, 1) := by decide +kernel
theorem dL_law_1373 : decode cL_law 1373 = .ok (.ireturn, 1) := by decide +kernel
theorem dL_law_1374 : decode cL_law 1374 = .ok (.aload_n 1, 1) := by decide +kernel
theorem dL_law_1375 : decode cL_law 1375 = .ok (.aload_n 0, 1) := by decide +kernel
theorem dL_law_1376 : decode cL_law 1376 = .ok (.iload_n 3, 1) := by decide +kernel
theorem dL_law_1377 : decode cL_law 1377 = .ok (.iconst 1, 1) := by decide +kernel
theorem dL_law_1378 : decode cL_law 1378 = .ok (.iadd, 1) := by decide +kernel
theorem dL_law_1379 : decode cL_law 1379 = .ok (.iaload, 1) := by decide +kernel
theorem dL_law_1380 : decode cL_law 1380 = .ok (.invokevirtual 163, 3) := by decide +kernel
theorem dL_law_1383 : decode cL_law 1383 = .ok (.aload_n 2, 1) := by decide +kernel
theorem dL_law_1384 : decode cL_law 1384 = .ok (.aload_n 0, 1) := by decide +kernel
theorem dL_law_1385 : decode cL_law 1385 = .ok (.iload_n 3, 1) := by decide +kernel
theorem dL_law_1386 : decode cL_law 1386 = .ok (.iconst 1, 1) := by decide +kernel
theorem dL_law_1387 : decode cL_law 1387 = .ok (.iadd, 1) := by decide +kernel
theorem dL_law_1388 : decode cL_law 1388 = .ok (.iaload, 1) := by decide +kernel
theorem dL_law_1389 : decode cL_law 1389 = .ok (.invokevirtual 167, 3) := by decide +kernel
theorem dL_law_1392 : decode cL_law 1392 = .ok (.lcmp, 1) := by decide +kernel
theorem dL_law_1393 : decode cL_law 1393 = .ok (.ifCond .eq 111, 3) := by decide +kernel
theorem dL_law_1396 : decode cL_law 1396 = .ok (.iconst 0, 1) := by decide +kernel
theorem dL_law_1397 : decode cL_law 1397 = .ok (.ireturn, 1) := by decide +kernel
theorem dL_law_1398 : decode cL_law 1398 = .ok (.aload_n 1, 1) := by decide +kernel
theorem dL_law_1399 : decode cL_law 1399 = .ok (.aload_n 0, 1) := by decide +kernel
theorem dL_law_1400 : decode cL_law 1400 = .ok (.iload_n 3, 1) := by decide +kernel
theorem dL_law_1401 : decode cL_law 1401 = .ok (.iconst 1, 1) := by decide +kernel
theorem dL_law_1402 : decode cL_law 1402 = .ok (.iadd, 1) := by decide +kernel
theorem dL_law_1403 : decode cL_law 1403 = .ok (.iaload, 1) := by decide +kernel
theorem dL_law_1404 : decode cL_law 1404 = .ok (.invokevirtual 168, 3) := by decide +kernel
theorem dL_law_1407 : decode cL_law 1407 = .ok (.aload_n 2, 1) := by decide +kernel
theorem dL_law_1408 : decode cL_law 1408 = .ok (.aload_n 0, 1) := by decide +kernel
theorem dL_law_1409 : decode cL_law 1409 = .ok (.iload_n 3, 1) := by decide +kernel
theorem dL_law_1410 : decode cL_law 1410 = .ok (.iconst 1, 1) := by decide +kernel
theorem dL_law_1411 : decode cL_law 1411 = .ok (.iadd, 1) := by decide +kernel
theorem dL_law_1412 : decode cL_law 1412 = .ok (.iaload, 1) := by decide +kernel
theorem dL_law_1413 : decode cL_law 1413 = .ok (.invokevirtual 171, 3) := by decide +kernel
theorem dL_law_1416 : decode cL_law 1416 = .ok (.if_icmp .eq 88, 3) := by decide +kernel
theorem dL_law_1419 : decode cL_law 1419 = .ok (.iconst 0, 1) := by decide +kernel
theorem dL_law_1420 : decode cL_law 1420 = .ok (.ireturn, 1) := by decide +kernel
theorem dL_law_1421 : decode cL_law 1421 = .ok (.aload_n 1, 1) := by decide +kernel
theorem dL_law_1422 : decode cL_law 1422 = .ok (.aload_n 0, 1) := by decide +kernel
theorem dL_law_1423 : decode cL_law 1423 = .ok (.iload_n 3, 1) := by decide +kernel
theorem dL_law_1424 : decode cL_law 1424 = .ok (.iconst 1, 1) := by decide +kernel
theorem dL_law_1425 : decode cL_law 1425 = .ok (.iadd, 1) := by decide +kernel
theorem dL_law_1426 : decode cL_law 1426 = .ok (.iaload, 1) := by decide +kernel
theorem dL_law_1427 : decode cL_law 1427 = .ok (.invokevirtual 172, 3) := by decide +kernel
theorem dL_law_1430 : decode cL_law 1430 = .ok (.aload_n 2, 1) := by decide +kernel
theorem dL_law_1431 : decode cL_law 1431 = .ok (.aload_n 0, 1) := by decide +kernel
theorem dL_law_1432 : decode cL_law 1432 = .ok (.iload_n 3, 1) := by decide +kernel
theorem dL_law_1433 : decode cL_law 1433 = .ok (.iconst 1, 1) := by decide +kernel
theorem dL_law_1434 : decode cL_law 1434 = .ok (.iadd, 1) := by decide +kernel
theorem dL_law_1435 : decode cL_law 1435 = .ok (.iaload, 1) := by decide +kernel
theorem dL_law_1436 : decode cL_law 1436 = .ok (.invokevirtual 175, 3) := by decide +kernel
theorem dL_law_1439 : decode cL_law 1439 = .ok (.if_icmp .eq 65, 3) := by decide +kernel
theorem dL_law_1442 : decode cL_law 1442 = .ok (.iconst 0, 1) := by decide +kernel
theorem dL_law_1443 : decode cL_law 1443 = .ok (.ireturn, 1) := by decide +kernel
theorem dL_law_1444 : decode cL_law 1444 = .ok (.aload_n 1, 1) := by decide +kernel
theorem dL_law_1445 : decode cL_law 1445 = .ok (.aload_n 0, 1) := by decide +kernel
theorem dL_law_1446 : decode cL_law 1446 = .ok (.iload_n 3, 1) := by decide +kernel
theorem dL_law_1447 : decode cL_law 1447 = .ok (.iconst 1, 1) := by decide +kernel
theorem dL_law_1448 : decode cL_law 1448 = .ok (.iadd, 1) := by decide +kernel
theorem dL_law_1449 : decode cL_law 1449 = .ok (.iaload, 1) := by decide +kernel
theorem dL_law_1450 : decode cL_law 1450 = .ok (.invokevirtual 176, 3) := by decide +kernel
theorem dL_law_1453 : decode cL_law 1453 = .ok (.aload_n 2, 1) := by decide +kernel
theorem dL_law_1454 : decode cL_law 1454 = .ok (.aload_n 0, 1) := by decide +kernel
theorem dL_law_1455 : decode cL_law 1455 = .ok (.iload_n 3, 1) := by decide +kernel
theorem dL_law_1456 : decode cL_law 1456 = .ok (.iconst 1, 1) := by decide +kernel
theorem dL_law_1457 : decode cL_law 1457 = .ok (.iadd, 1) := by decide +kernel
theorem dL_law_1458 : decode cL_law 1458 = .ok (.iaload, 1) := by decide +kernel
theorem dL_law_1459 : decode cL_law 1459 = .ok (.invokevirtual 179, 3) := by decide +kernel
theorem dL_law_1462 : decode cL_law 1462 = .ok (.if_icmp .eq 42, 3) := by decide +kernel
theorem dL_law_1465 : decode cL_law 1465 = .ok (.iconst 0, 1) := by decide +kernel
theorem dL_law_1466 : decode cL_law 1466 = .ok (.ireturn, 1) := by decide +kernel
theorem dL_law_1467 : decode cL_law 1467 = .ok (.aload_n 1, 1) := by decide +kernel
theorem dL_law_1468 : decode cL_law 1468 = .ok (.aload_n 0, 1) := by decide +kernel
theorem dL_law_1469 : decode cL_law 1469 = .ok (.iload_n 3, 1) := by decide +kernel
theorem dL_law_1470 : decode cL_law 1470 = .ok (.iconst 1, 1) := by decide +kernel
theorem dL_law_1471 : decode cL_law 1471 = .ok (.iadd, 1) := by decide +kernel
theorem dL_law_1472 : decode cL_law 1472 = .ok (.iaload, 1) := by decide +kernel
theorem dL_law_1473 : decode cL_law 1473 = .ok (.invokevirtual 180, 3) := by decide +kernel
theorem dL_law_1476 : decode cL_law 1476 = .ok (.aload_n 2, 1) := by decide +kernel
theorem dL_law_1477 : decode cL_law 1477 = .ok (.aload_n 0, 1) := by decide +kernel
theorem dL_law_1478 : decode cL_law 1478 = .ok (.iload_n 3, 1) := by decide +kernel
theorem dL_law_1479 : decode cL_law 1479 = .ok (.iconst 1, 1) := by decide +kernel
theorem dL_law_1480 : decode cL_law 1480 = .ok (.iadd, 1) := by decide +kernel
theorem dL_law_1481 : decode cL_law 1481 = .ok (.iaload, 1) := by decide +kernel
theorem dL_law_1482 : decode cL_law 1482 = .ok (.invokevirtual 183, 3) := by decide +kernel
theorem dL_law_1485 : decode cL_law 1485 = .ok (.if_icmp .eq 19, 3) := by decide +kernel
theorem dL_law_1488 : decode cL_law 1488 = .ok (.iconst 0, 1) := by decide +kernel
theorem dL_law_1489 : decode cL_law 1489 = .ok (.ireturn, 1) := by decide +kernel
theorem dL_law_1490 : decode cL_law 1490 = .ok (.aload_n 1, 1) := by decide +kernel
theorem dL_law_1491 : decode cL_law 1491 = .ok (.invokevirtual 184, 3) := by decide +kernel
theorem dL_law_1494 : decode cL_law 1494 = .ok (.aload_n 2, 1) := by decide +kernel
theorem dL_law_1495 : decode cL_law 1495 = .ok (.invokevirtual 188, 3) := by decide +kernel
theorem dL_law_1498 : decode cL_law 1498 = .ok (.lcmp, 1) := by decide +kernel
theorem dL_law_1499 : decode cL_law 1499 = .ok (.ifCond .eq 5, 3) := by decide +kernel
theorem dL_law_1502 : decode cL_law 1502 = .ok (.iconst 0, 1) := by decide +kernel
theorem dL_law_1503 : decode cL_law 1503 = .ok (.ireturn, 1) := by decide +kernel
theorem dL_law_1504 : decode cL_law 1504 = .ok (.iinc 3 6, 3) := by decide +kernel
theorem dL_law_1507 : decode cL_law 1507 = .ok (.goto (-1489), 3) := by decide +kernel
theorem dL_law_1510 : decode cL_law 1510 = .ok (.iconst 1, 1) := by decide +kernel
theorem dL_law_1511 : decode cL_law 1511 = .ok (.ireturn, 1) := by decide +kernel
end
section
/-! ===== numbers ===== -/
def zI (n : Int) : Int32 := Int32.ofInt n
def zL (n : Int) : Int64 := Int64.ofInt n
theorem zI_add (a b : Int) : zI a + zI b = zI (a + b) := (Int32.ofInt_add a b).symm
theorem zI_sub (a b : Int) : zI a - zI b = zI (a - b) := (Int32.ofInt_sub a b).symm
theorem zI_mul (a b : Int) : zI a * zI b = zI (a * b) := (Int32.ofInt_mul a b).symm
theorem zL_add (a b : Int) : zL a + zL b = zL (a + b) := (Int64.ofInt_add a b).symm
theorem zL_sub (a b : Int) : zL a - zL b = zL (a - b) := (Int64.ofInt_sub a b).symm
theorem zL_mul (a b : Int) : zL a * zL b = zL (a * b) := (Int64.ofInt_mul a b).symm
theorem zI_toInt {a : Int} (h : -2147483648 ≤ a) (h2 : a < 2147483648) : (zI a).toInt = a := Int32.toInt_ofInt_of_le h h2
theorem zL_toInt {a : Int} (h : -9223372036854775808 ≤ a) (h2 : a < 9223372036854775808) : (zL a).toInt = a := Int64.toInt_ofInt_of_le h h2
theorem zI_of (x : Int32) : zI x.toInt = x := Int32.ofInt_toInt x
theorem zI_clamp {a : Int} (h : 0 ≤ a) (h2 : a < 2147483648) : (zI a).toNatClampNeg = a.toNat := by
  show (zI a).toInt.toNat = a.toNat
  rw [zI_toInt (by omega) h2]
theorem zI_in {a : Int} {n : Nat} (h : 0 ≤ a) (h2 : a < n) (hn : n < 2147483648) : vp_in (zI a) n := by
  rw [vp_in_iff, zI_toInt (by omega) (by omega)]
  exact ⟨h, h2⟩
theorem zI_eq {a b : Int} (ha : -2147483648 ≤ a) (ha2 : a < 2147483648) (hb : -2147483648 ≤ b) (hb2 : b < 2147483648) : zI a = zI b ↔ a = b := by
  constructor
  · intro h
    have := congrArg Int32.toInt h
    rwa [zI_toInt ha ha2, zI_toInt hb hb2] at this
  · intro h; rw [h]
theorem zI_lt {a b : Int} (ha : -2147483648 ≤ a) (ha2 : a < 2147483648) (hb : -2147483648 ≤ b) (hb2 : b < 2147483648) : zI a < zI b ↔ a < b := by
  rw [Int32.lt_iff_toInt_lt, zI_toInt ha ha2, zI_toInt hb hb2]
theorem zI_le {a b : Int} (ha : -2147483648 ≤ a) (ha2 : a < 2147483648) (hb : -2147483648 ≤ b) (hb2 : b < 2147483648) : zI a ≤ zI b ↔ a ≤ b := by
  rw [Int32.le_iff_toInt_le, zI_toInt ha ha2, zI_toInt hb hb2]
/-! ===== the system's layout ===== -/
abbrev zMth := String × MethodName × ByteArray × Nat × Option FieldType
abbrev zMem := Nat → Int → Int
/-- b, B, adK, adV, the heap at the law's start, the classes' numbers, the arrays' class numbers, the script's length and contents -/
abbrev zG := Nat × Nat × (Nat → Nat) × (Nat → Nat) × Heap × va_G × (Nat → ClassId) × Nat × (Nat → Int32)
abbrev zGb (G : zG) : Nat := G.1
abbrev zGB (G : zG) : Nat := G.2.1
abbrev zGK (G : zG) : Nat → Nat := G.2.2.1
abbrev zGV (G : zG) : Nat → Nat := G.2.2.2.1
abbrev zGH (G : zG) : Heap := G.2.2.2.2.1
abbrev zGD (G : zG) : va_G := G.2.2.2.2.2.1
abbrev zGA (G : zG) : Nat → ClassId := G.2.2.2.2.2.2.1
abbrev zGL (G : zG) : Nat := G.2.2.2.2.2.2.2.1
abbrev zGx (G : zG) : Nat → Int32 := G.2.2.2.2.2.2.2.2
def zad (G : zG) (r : Nat) : Nat := if r = 0 then zGb G else if r < 10000 then zGB G + (r - 1) else zGK G (r - 10000)
def ztr (G : zG) : Value → Value
  | .ref r => .ref (zad G r)
  | v => v
def zlyRows : List (Nat × Nat) := [(1, 3), (100, 30)]
def zlySc : List (Nat × Nat) := [(2, 4), (100, 5), (100, 20), (100, 7)]
def zlyCh : List (Nat × Nat) := [(0, 13), (100, 7), (100, 7), (100, 5), (100, 5), (100, 5)] ++ zlySc ++ [(103, 8)] ++ zlyRows ++ zlyRows ++ zlyRows ++ zlySc ++ zlySc ++ zlySc ++ zlySc ++ zlySc ++ zlySc ++ zlySc ++ zlySc
/-- the cells from relative address 1 on: (class, fields) or (kind of array, length) -/
def zLAY : List (Nat × Nat) := [(5, 14)] ++ zlyCh ++ zlyCh ++ [(104, 2), (101, 2)] ++ zlySc ++ [(4, 8), (102, 150), (100, 3)] ++ [(3, 7), (100, 5), (100, 5), (100, 40), (100, 6)] ++ [(100, 7), (100, 6), (100, 7), (100, 7), (100, 3)] ++ zlyCh ++ zlyCh ++ [(6, 24), (100, 399), (100, 399), (100, 33), (100, 798), (101, 2), (100, 150), (100, 3), (100, 40), (100, 7), (100, 7), (100, 120)]
def zly (r : Nat) : Option (Nat × Nat) := if r = 0 then none else zLAY[r - 1]?
/-- a field's type: 0 int, 1 long, k + 2: the cell k places on -/
def zFT : List (List Nat) := [[0, 0, 0, 3, 4, 5, 6, 7, 8, 12, 13, 15, 17], [0, 0, 3], [0, 3, 4, 5], [0, 0, 0, 3, 4, 5, 6], [3, 0, 0, 0, 0, 0, 0, 4], [3, 52, 101, 102, 103, 107, 110, 115, 116, 117, 118, 119, 1, 1], [3, 4, 5, 6, 7, 8, 0, 1, 1, 9, 0, 0, 0, 0, 0, 0, 0, 0, 10, 11, 12, 13, 0, 1]]
def zft (ci j : Nat) : Nat := (zFT.getD ci []).getD j 0
def zfv (G : zG) (f : Int → Int) (ci r j : Nat) : Value := match zft ci j with
  | 0 => .int (zI (f j))
  | 1 => .long (zL (f j))
  | o + 2 => .ref (zad G (r + o))
def zE (G : zG) (f : Int → Int) (r : Nat) (kn : Nat × Nat) : va_E :=
  if kn.1 < 100 then .inr (kn.1, (List.range kn.2).map (fun j => zfv G f kn.1 r j))
  else if kn.1 < 103 then .inl (zGA G kn.1, kn.2, .inl (fun j => zI (f j)))
  else .inl (zGA G kn.1, kn.2, .inr (.inr (.inr (.inr (fun j => some (zad G (f j).toNat))))))
def zWs (G : zG) (σ : zMem) : va_W := zLAY.zipIdx.map (fun q => (zad G (q.2 + 1), zE G (σ (q.2 + 1)) (q.2 + 1) q.1))
/-- one cell anew -/
def zwa (σ : zMem) (r : Nat) (f : Int → Int) : zMem := fun b => if b = r then f else σ b
def zup (f : Int → Int) (i x : Int) : Int → Int := fun j => if j = i then x else f j
def zwr (σ : zMem) (r : Nat) (i x : Int) : zMem := zwa σ r (zup (σ r) i x)
theorem zLAY_len : zLAY.length = 228 := by decide +kernel
theorem zWs_get {G : zG} {σ : zMem} {r : Nat} {kn : Nat × Nat} (h : zly r = some kn) : (zWs G σ)[r - 1]? = some (zad G r, zE G (σ r) r kn) := by
  unfold zly at h
  split at h
  · cases h
  · rename_i h0
    have e : r - 1 + 1 = r := by omega
    simp [zWs, List.getElem?_zipIdx, h, e]
theorem zly_lt {r : Nat} {kn : Nat × Nat} (h : zly r = some kn) : r ≠ 0 ∧ r < 10000 := by
  unfold zly at h
  split at h
  · cases h
  · rename_i h0
    have := (List.getElem?_eq_some_iff.mp h).1
    rw [zLAY_len] at this
    exact ⟨h0, by omega⟩
theorem zWs_set {G : zG} {σ : zMem} {r : Nat} {kn : Nat × Nat} (h : zly r = some kn) (f : Int → Int) {e : va_E} (he : zE G f r kn = e) : (zWs G σ).set (r - 1) (zad G r, e) = zWs G (zwa σ r f) := by
  have h0 := (zly_lt h).1
  have hl : r - 1 < (zWs G σ).length := (List.getElem?_eq_some_iff.mp (zWs_get (G := G) (σ := σ) h)).1
  apply List.ext_getElem?
  intro i
  by_cases hi : i = r - 1
  · subst hi
    rw [List.getElem?_set_self hl, zWs_get h]
    simp [zwa, he]
  · rw [List.getElem?_set_ne (Ne.symm hi)]
    have hne : ¬ i + 1 = r := by omega
    simp only [zWs, List.getElem?_map, List.getElem?_zipIdx, Nat.zero_add, zwa]
    cases zLAY[i]? <;> simp [hne]
def zA (G : zG) : Nat → Prop := fun q => zGB G ≤ q
theorem zWs_D (G : zG) (σ : zMem) : va_D (zA G) (zWs G σ) := by
  have key : ∀ (k : Nat) (q : Nat × va_E), (zWs G σ)[k]? = some q → k < 228 ∧ q.1 = zGB G + k := by
    intro k q h
    have hl : k < 228 := by
      have := (List.getElem?_eq_some_iff.mp h).1
      simpa [zWs, zLAY_len] using this
    have hL : k < zLAY.length := by rw [zLAY_len]; exact hl
    simp [zWs, List.getElem?_zipIdx, List.getElem?_eq_getElem hL] at h
    refine ⟨hl, ?_⟩
    rw [← h]
    simp only [zad]
    rw [if_neg (by omega), if_pos (by omega)]
    omega
  refine ⟨fun i j p q hp hq h => ?_, fun k q h => ?_⟩
  · have h1 := key i p hp
    have h2 := key j q hq
    omega
  · have h1 := key k q h
    show zGB G ≤ q.1
    omega
def zT (G : zG) : List (ClassId × FieldType) := [(zGA G 100, .int), (zGA G 101, .boolean), (zGA G 102, .byte), (zGA G 103, .object RX2), (zGA G 104, .object RX0)]
/-! ===== the words ===== -/
def ztbl : List Cond := lw_tbl.filter goodWord
theorem zw_in {w : Cond} (i : Nat) (h : tables_1[i]? = some w) (hg : goodWord w = true) : w ∈ ztbl := List.mem_filter.mpr ⟨List.mem_append_right _ (List.mem_of_getElem? h), hg⟩
theorem zs_in {w : Cond} (i : Nat) (h : (k2_sels lw_privs)[i]? = some w) (hg : goodWord w = true) : w ∈ ztbl := List.mem_filter.mpr ⟨List.mem_append_left _ (List.mem_of_getElem? h), hg⟩
theorem ztbl_good (w : Cond) : GoodIn ztbl (w :: ztbl) → True := fun _ => trivial
theorem zgood {ws : List Cond} (h : ∀ w ∈ ws, w ∈ ztbl) : GoodIn ztbl ws := fun w hw => ⟨h w hw, good_of_word (List.mem_filter.mp (h w hw)).2⟩
/-! ===== strings, the script ===== -/
def zSi : Nat → Nat
  | 0 => 109 | 1 => 115 | 2 => 117 | 3 => 119 | _ => 121
def zSt : Nat → String
  | 0 => "chapter" | 1 => "seat" | 2 => "canon" | 3 => "sits" | _ => "years"
def zSn : List Nat := [7, 4, 5, 4, 5]
def zSb : List (List Int32) := [[99, 104, 97, 112, 116, 101, 114], [115, 101, 97, 116], [99, 97, 110, 111, 110], [115, 105, 116, 115], [121, 101, 97, 114, 115]]
/-- the links to a nest mate's private methods -/
def zNl : List (String × Nat × MethodName) := [(RX5, 36, yX4_init), (RX5, 43, yX3_init), (RX0, 85, yX5_heavy), (RX4, 87, yX5_within), (RX0, 95, yX5_given), (RX0, 99, yX5_accepted), (RX0, 118, yX5_worn)]
def zNst (U : State) : Prop := ∀ q ∈ zNl, va_Nw (.methodLinkNest q.1 q.2.1 q.2.2 RX5) U
theorem zNst.warm {s U : State} (hW : s.WarmedH U.vm) (h : zNst s) : zNst U := fun q hq => va_Nw.warmM hW (h q hq)
theorem zNst.same {s U : State} (hv : s.vm = U.vm) (h : zNst s) : zNst U := fun q hq => va_Nw.same (u := s) rfl hv (h q hq)
def zStr (G : zG) (U : State) : Prop := ((∀ i, i < 5 → vk_R RX4 (zSi i) (zSt i) (zGK G i) U) ∧ zNst U) ∧ vk_S 5 zSn zSb (zGK G) (zGV G) (zA G) U (zGH G)
def zScr (G : zG) (U : State) : Prop := va_X (zGb G) (zGL G) (zGx G) U (zGH G) ∧ zGb G < zGB G
def zOld (G : zG) (U : State) : Prop := zGB G ≤ U.heap.size ∧ (∀ q, q < zGB G → U.heap[q]? = (zGH G)[q]?) ∧ zGB G ≤ (zGH G).size
theorem zStr.warm {G : zG} {s U : State} (hW : s.WarmedH U.vm) (h : zStr G s) : zStr G U := ⟨⟨fun i hi => (h.1.1 i hi).warm hW, h.1.2.warm hW⟩, h.2.moved hW.alike⟩
theorem zScr.moved {G : zG} {s U : State} (hvm : s.vm.Alike U.vm) (h : zScr G s) : zScr G U := ⟨h.1.moved hvm, h.2⟩
/-- what a method finds, and leaves -/
def zB (G : zG) (σ : zMem) (U : State) : Prop := va_P (zGD G) vwCl (zWs G σ) U.heap ∧ va_K (zGD G) vwCl (zT G) U ∧ zStr G U ∧ zScr G U ∧ zOld G U
def zQ (G : zG) (Q : Option Value → zMem → Prop) : Array Value → State → Outcome → State → Prop := fun _ st oc t => (∃ (r : Option Value) (σ' : zMem), oc = .returned (r.map (ztr G)) ∧ Q r σ' ∧ va_P (zGD G) vwCl (zWs G σ') t.heap) ∧ va_F (zA G) st t
def zrm (d : Nat) : Room := { frames := d, cells := 0, slots := 0, locals := 64 * d }
def zSp (l : Launch) (d : Nat) (M : zMth) (args : List Value) (σ : zMem) (Q : Option Value → zMem → Prop) : Prop :=
  ∀ G : zG, Met l M.2.1 (Cond.code M.2.1 M.2.2.1 M.2.2.2.1 M.2.2.2.2 :: ztbl) (zrm d) (va_Pc (args.map (ztr G)) (zB G σ)) (zQ G Q) 0 0 (zA G)
/-! ===== locals ===== -/
def zkl : Option Value → Option Value
  | some (.long _) => none
  | some (.double _) => none
  | o => o
def zs1 : Nat → Value → List (Option Value) → List (Option Value)
  | _, _, [] => []
  | 0, v, _ :: L => some v :: L
  | i + 1, v, o :: L => (if i = 0 then zkl o else o) :: zs1 i v L
def zs2 : Nat → Value → List (Option Value) → List (Option Value)
  | _, _, [] => []
  | 0, v, [_] => [some v]
  | 0, v, _ :: _ :: L => some v :: none :: L
  | i + 1, v, o :: L => (if i = 0 then zkl o else o) :: zs2 i v L
theorem zkl_spec {o : Option Value} {w : Value} (h : zkl o = some w) : o = some w ∧ ¬ w.category = 2 := by
  unfold zkl at h
  split at h
  · cases h
  · cases h
  · rename_i h1 h2
    subst h
    refine ⟨rfl, ?_⟩
    cases w <;> simp_all [Value.category]
theorem zs1_spec (i : Nat) (v : Value) (L : List (Option Value)) : ∀ (j : Nat) (w : Value), (zs1 i v L)[j]? = some (some w) → (j = i ∧ w = v) ∨ (j ≠ i ∧ L[j]? = some (some w) ∧ ¬ (j + 1 = i ∧ w.category = 2)) := by
  induction L generalizing i with
  | nil => intro j w h; cases i <;> simp [zs1] at h
  | cons o L ih =>
    intro j w h
    cases i with
    | zero =>
      simp only [zs1] at h
      cases j with
      | zero => simp at h; exact Or.inl ⟨rfl, h.symm⟩
      | succ j => exact Or.inr ⟨by omega, by simpa using h, by omega⟩
    | succ i =>
      simp only [zs1] at h
      cases j with
      | zero =>
        simp at h
        split at h
        · rename_i h0
          have := zkl_spec h
          exact Or.inr ⟨by omega, by simp [this.1], fun q => this.2 q.2⟩
        · rename_i h0
          exact Or.inr ⟨by omega, by simp [h], fun q => h0 (by omega)⟩
      | succ j =>
        rw [List.getElem?_cons_succ] at h
        rcases ih i j w h with q | q
        · exact Or.inl ⟨by omega, q.2⟩
        · exact Or.inr ⟨by omega, by simpa using q.2.1, fun z => q.2.2 ⟨by omega, z.2⟩⟩
theorem zs2_spec (i : Nat) (v : Value) (L : List (Option Value)) : ∀ (j : Nat) (w : Value), (zs2 i v L)[j]? = some (some w) → (j = i ∧ w = v) ∨ (j ≠ i ∧ j ≠ i + 1 ∧ L[j]? = some (some w) ∧ ¬ (j + 1 = i ∧ w.category = 2)) := by
  induction L generalizing i with
  | nil => intro j w h; cases i <;> simp [zs2] at h
  | cons o L ih =>
    intro j w h
    cases i with
    | zero =>
      cases L with
      | nil =>
        simp only [zs2] at h
        cases j with
        | zero => simp at h; exact Or.inl ⟨rfl, h.symm⟩
        | succ j => simp at h
      | cons o2 L =>
        simp only [zs2] at h
        match j, h with
        | 0, h => simp at h; exact Or.inl ⟨rfl, h.symm⟩
        | 1, h => simp at h
        | j + 2, h => exact Or.inr ⟨by omega, by omega, by simpa using h, by omega⟩
    | succ i =>
      simp only [zs2] at h
      cases j with
      | zero =>
        simp at h
        split at h
        · rename_i h0
          have := zkl_spec h
          exact Or.inr ⟨by omega, by omega, by simp [this.1], fun q => this.2 q.2⟩
        · rename_i h0
          exact Or.inr ⟨by omega, by omega, by simp [h], fun q => h0 (by omega)⟩
      | succ j =>
        rw [List.getElem?_cons_succ] at h
        rcases ih i j w h with q | q
        · exact Or.inl ⟨by omega, q.2⟩
        · exact Or.inr ⟨by omega, by omega, by simpa using q.2.2.1, fun z => q.2.2.2 ⟨by omega, z.2⟩⟩
def zsl : List Value → List (Option Value)
  | [] => []
  | .long x :: vs => some (.long x) :: none :: zsl vs
  | .double x :: vs => some (.double x) :: none :: zsl vs
  | v :: vs => some v :: zsl vs
def zen (n : Nat) (vs : List Value) : List (Option Value) := zsl vs ++ List.replicate (n - (zsl vs).length) none
def zlv (G : zG) (ls : Array Slot) (n : Nat) (L : List (Option Value)) : Prop := ls.size = n ∧ lv_wf ls ∧ ∀ (i : Nat) (v : Value), L[i]? = some (some v) → ls[i]? = some (Slot.val (ztr G v))
def zas (G : zG) (L : List (Option Value)) : List (Nat × Value) := (List.range L.length).filterMap (fun i => match L[i]? with | some (some v) => some (i, ztr G v) | _ => none)
theorem zas_mem {G : zG} {L : List (Option Value)} {i : Nat} {v : Value} (h : L[i]? = some (some v)) : (i, ztr G v) ∈ zas G L := by
  refine List.mem_filterMap.mpr ⟨i, List.mem_range.mpr (List.getElem?_eq_some_iff.mp h).1, ?_⟩
  rw [h]
theorem zlv.has {G : zG} {ls : Array Slot} {n : Nat} {L : List (Option Value)} (h : zlv G ls n L) : lv_has ls n (zas G L) := by
  refine ⟨h.1, h.2.1, fun q hq => ?_⟩
  obtain ⟨i, -, hi⟩ := List.mem_filterMap.mp hq
  split at hi
  · rename_i v hv
    cases hi
    exact h.2.2 i v hv
  · cases hi
theorem ztr_cat (G : zG) (v : Value) : (ztr G v).category = v.category := by cases v <;> rfl
theorem zlv.st1 {G : zG} {ls : Array Slot} {n i : Nat} {L : List (Option Value)} {v : Value} (h : lv_has ls n ((i, ztr G v) :: (zas G L).filter (fun q => !(q.1 == i) && !(q.1 + 1 == i && q.2.category == 2)))) : zlv G ls n (zs1 i v L) := by
  refine ⟨h.1, h.2.1, fun j w hj => ?_⟩
  rcases zs1_spec i v L j w hj with ⟨rfl, rfl⟩ | ⟨h1, h2, h3⟩
  · exact h.2.2 (_, _) List.mem_cons_self
  · refine h.2.2 (j, ztr G w) (List.mem_cons_of_mem _ (List.mem_filter.mpr ⟨zas_mem h2, ?_⟩))
    simp only [ztr_cat]
    simp [h1]
    omega
theorem zlv.st2 {G : zG} {ls : Array Slot} {n i : Nat} {L : List (Option Value)} {v : Value} (h : lv_has ls n ((i, ztr G v) :: (zas G L).filter (fun q => !(q.1 == i) && (!(q.1 == i + 1) && !(q.1 + 1 == i && q.2.category == 2))))) : zlv G ls n (zs2 i v L) := by
  refine ⟨h.1, h.2.1, fun j w hj => ?_⟩
  rcases zs2_spec i v L j w hj with ⟨rfl, rfl⟩ | ⟨h1, h0, h2, h3⟩
  · exact h.2.2 (_, _) List.mem_cons_self
  · refine h.2.2 (j, ztr G w) (List.mem_cons_of_mem _ (List.mem_filter.mpr ⟨zas_mem h2, ?_⟩))
    simp only [ztr_cat]
    simp [h1, h0]
    omega
end
section
/-! ===== the judgement ===== -/
def zrt (M : zMth) (pc : Nat) : Option Value → Prop
  | none => M.2.2.2.2 = none ∧ decode M.2.2.1 pc = .ok (.return_, 1)
  | some (.int v) => ∃ ty, M.2.2.2.2 = some ty ∧ narrow ty (.int v) = .int v ∧ decode M.2.2.1 pc = .ok (.ireturn, 1)
  | some (.long _) => M.2.2.2.2 = some .long ∧ decode M.2.2.1 pc = .ok (.lreturn, 1)
  | _ => False
/-- a method's run, as the kit sees it: what stays, and what is wanted at the end -/
def zC (l : Launch) (d : Nat) (M : zMth) (Q : Option Value → zMem → Prop) (G : zG) (p : Program) (e : Env) (R : Room) (s : State) (m : MethodId) (args : Array Value) (below : List Frame) (meth : Method) (c : Code) (cells slots : Nat) (Z : State → Prop) : Prop :=
  p.tables.exec = Jvm.exec ∧ c.code = M.2.2.1 ∧ c.maxLocals = M.2.2.2.1 ∧ s.vm.findClass M.1 = some m.cls ∧ (∀ w ∈ ztbl, w.before args s = true) ∧ va_K (zGD G) vwCl (zT G) s ∧ zStr G s ∧ zScr G s ∧ zOld G s ∧ (d ≤ R.frames ∧ 64 * d ≤ R.locals ∧ cells ≤ R.cells ∧ slots ≤ R.slots) ∧
  ∀ (r : Option Value) (σ' : zMem) (H : Heap) (locs : List Loc) (ls : Array Slot) (pc : Nat), zrt M pc r → Q r σ' → va_P (zGD G) vwCl (zWs G σ') H → va_S (zA G) s.heap H locs → W p l e R s m args below meth c H locs cells slots Z (F0 m pc ls ((r.map (ztr G)).toList))
def zw (l : Launch) (d : Nat) (M : zMth) (pc : Nat) (L : List (Option Value)) (st : List Value) (σ : zMem) (Q : Option Value → zMem → Prop) : Prop :=
  ∀ (G : zG) (p : Program) (e : Env) (R : Room) (s : State) (m : MethodId) (args : Array Value) (below : List Frame) (meth : Method) (c : Code) (cells slots : Nat) (Z : State → Prop), zC l d M Q G p e R s m args below meth c cells slots Z →
  ∀ (H : Heap) (locs : List Loc) (ls : Array Slot), va_P (zGD G) vwCl (zWs G σ) H → va_S (zA G) s.heap H locs → zlv G ls M.2.2.2.1 L → W p l e R s m args below meth c H locs cells slots Z (F0 m pc ls (st.map (ztr G)))
section ZW
variable {l : Launch} {d : Nat} {M : zMth} {pc : Nat} {L : List (Option Value)} {st : List Value} {σ : zMem} {Q : Option Value → zMem → Prop} {k : Nat}
theorem zw_mono {Q' : Option Value → zMem → Prop} (h : zw l d M pc L st σ Q') (hQ : ∀ r σ', Q' r σ' → Q r σ') : zw l d M pc L st σ Q := by
  intro G p e R s m args below meth c cells slots Z hC
  obtain ⟨a1, a2, a3, a4, a5, a6, a7, a8, a9, a10, hret⟩ := hC
  exact h G p e R s m args below meth c cells slots Z ⟨a1, a2, a3, a4, a5, a6, a7, a8, a9, a10, fun r σ' H locs ls pc h1 h2 => hret r σ' H locs ls pc h1 (hQ r σ' h2)⟩
/-! constants, locals, stack -/
theorem zw_iconst (pc' : Nat) {n : Int} (hd : decode M.2.2.1 pc = .ok (.iconst n, 1)) (hp : pc + 1 = pc') (kk : zw l d M pc' L (.int (zI n) :: st) σ Q) : zw l d M pc L st σ Q := by
  subst hp; intro G p e R s m args below meth c cells slots Z hC H locs ls hP hS hl
  exact lv_iconst hC.1 hC.2.1 hd rfl (kk G p e R s m args below meth c cells slots Z hC H locs ls hP hS hl)
theorem zw_bipush (pc' : Nat) {n : Int} (hd : decode M.2.2.1 pc = .ok (.bipush n, 2)) (hp : pc + 2 = pc') (hv : (Int8.ofInt n).toInt32 = zI n) (kk : zw l d M pc' L (.int (zI n) :: st) σ Q) : zw l d M pc L st σ Q := by
  subst hp; intro G p e R s m args below meth c cells slots Z hC H locs ls hP hS hl
  exact lv_bipush hC.1 hC.2.1 hd hv (kk G p e R s m args below meth c cells slots Z hC H locs ls hP hS hl)
theorem zw_sipush (pc' : Nat) {n : Int} (hd : decode M.2.2.1 pc = .ok (.sipush n, 3)) (hp : pc + 3 = pc') (hv : (Int16.ofInt n).toInt32 = zI n) (kk : zw l d M pc' L (.int (zI n) :: st) σ Q) : zw l d M pc L st σ Q := by
  subst hp; intro G p e R s m args below meth c cells slots Z hC H locs ls hP hS hl
  exact lv_sipush hC.1 hC.2.1 hd hv (kk G p e R s m args below meth c cells slots Z hC H locs ls hP hS hl)
theorem zw_lconst (pc' : Nat) {n : Fin 2} (v : Int) (hd : decode M.2.2.1 pc = .ok (.lconst n, 1)) (hp : pc + 1 = pc') (hv : Int64.ofNat (n : Nat) = zL v) (kk : zw l d M pc' L (.long (zL v) :: st) σ Q) : zw l d M pc L st σ Q := by
  subst hp; intro G p e R s m args below meth c cells slots Z hC H locs ls hP hS hl
  exact lv_lconst hC.1 hC.2.1 hd hv (kk G p e R s m args below meth c cells slots Z hC H locs ls hP hS hl)
theorem zw_ldc (pc' : Nat) {i : Nat} (v : Int) (hd : decode M.2.2.1 pc = .ok (.ldc i, 2)) (hp : pc + 2 = pc') (hw : Cond.constant M.1 i (zI v) ∈ ztbl) (kk : zw l d M pc' L (.int (zI v) :: st) σ Q) : zw l d M pc L st σ Q := by
  subst hp; intro G p e R s m args below meth c cells slots Z hC H locs ls hP hS hl
  exact lv_ldc hC.1 hC.2.1 hC.2.2.2.1 (hC.2.2.2.2.1 _ hw) hd (kk G p e R s m args below meth c cells slots Z hC H locs ls hP hS hl)
theorem zw_ldc2 (pc' : Nat) {i : Nat} (v : Int) (hd : decode M.2.2.1 pc = .ok (.ldc2_w i, 3)) (hp : pc + 3 = pc') (hw : Cond.constantLong M.1 i (zL v) ∈ ztbl) (kk : zw l d M pc' L (.long (zL v) :: st) σ Q) : zw l d M pc L st σ Q := by
  subst hp; intro G p e R s m args below meth c cells slots Z hC H locs ls hP hS hl
  exact lv_ldc2 hC.1 hC.2.1 hC.2.2.2.1 (hC.2.2.2.2.1 _ hw) hd (kk G p e R s m args below meth c cells slots Z hC H locs ls hP hS hl)
theorem zw_iload_n (pc' : Nat) {i : Fin 4} {x : Int} (hd : decode M.2.2.1 pc = .ok (.iload_n i, 1)) (hp : pc + 1 = pc') (hL : L[(i : Nat)]? = some (some (.int (zI x)))) (kk : zw l d M pc' L (.int (zI x) :: st) σ Q) : zw l d M pc L st σ Q := by
  subst hp; intro G p e R s m args below meth c cells slots Z hC H locs ls hP hS hl
  exact lv_iload_n hC.1 hC.2.1 hd rfl (hl.2.2 _ _ hL) (kk G p e R s m args below meth c cells slots Z hC H locs ls hP hS hl)
theorem zw_iload (pc' : Nat) {i : Nat} {x : Int} (hd : decode M.2.2.1 pc = .ok (.iload i, 2)) (hp : pc + 2 = pc') (hL : L[i]? = some (some (.int (zI x)))) (kk : zw l d M pc' L (.int (zI x) :: st) σ Q) : zw l d M pc L st σ Q := by
  subst hp; intro G p e R s m args below meth c cells slots Z hC H locs ls hP hS hl
  exact lv_iload hC.1 hC.2.1 hd (hl.2.2 _ _ hL) (kk G p e R s m args below meth c cells slots Z hC H locs ls hP hS hl)
theorem zw_lload_n (pc' : Nat) {i : Fin 4} {x : Int} (hd : decode M.2.2.1 pc = .ok (.lload_n i, 1)) (hp : pc + 1 = pc') (hL : L[(i : Nat)]? = some (some (.long (zL x)))) (kk : zw l d M pc' L (.long (zL x) :: st) σ Q) : zw l d M pc L st σ Q := by
  subst hp; intro G p e R s m args below meth c cells slots Z hC H locs ls hP hS hl
  exact lv_lload_n hC.1 hC.2.1 hd rfl (hl.2.2 _ _ hL) (kk G p e R s m args below meth c cells slots Z hC H locs ls hP hS hl)
theorem zw_lload (pc' : Nat) {i : Nat} {x : Int} (hd : decode M.2.2.1 pc = .ok (.lload i, 2)) (hp : pc + 2 = pc') (hL : L[i]? = some (some (.long (zL x)))) (kk : zw l d M pc' L (.long (zL x) :: st) σ Q) : zw l d M pc L st σ Q := by
  subst hp; intro G p e R s m args below meth c cells slots Z hC H locs ls hP hS hl
  exact lv_lload hC.1 hC.2.1 hd (hl.2.2 _ _ hL) (kk G p e R s m args below meth c cells slots Z hC H locs ls hP hS hl)
theorem zw_aload_n (pc' : Nat) {i : Fin 4} {a : Nat} (hd : decode M.2.2.1 pc = .ok (.aload_n i, 1)) (hp : pc + 1 = pc') (hL : L[(i : Nat)]? = some (some (.ref a))) (kk : zw l d M pc' L (.ref a :: st) σ Q) : zw l d M pc L st σ Q := by
  subst hp; intro G p e R s m args below meth c cells slots Z hC H locs ls hP hS hl
  exact lv_aload_n hC.1 hC.2.1 hd rfl (hl.2.2 _ _ hL) (kk G p e R s m args below meth c cells slots Z hC H locs ls hP hS hl)
theorem zw_aload (pc' : Nat) {i : Nat} {a : Nat} (hd : decode M.2.2.1 pc = .ok (.aload i, 2)) (hp : pc + 2 = pc') (hL : L[i]? = some (some (.ref a))) (kk : zw l d M pc' L (.ref a :: st) σ Q) : zw l d M pc L st σ Q := by
  subst hp; intro G p e R s m args below meth c cells slots Z hC H locs ls hP hS hl
  exact lv_aload hC.1 hC.2.1 hd (hl.2.2 _ _ hL) (kk G p e R s m args below meth c cells slots Z hC H locs ls hP hS hl)
theorem zw_istore_n (pc' : Nat) {i : Fin 4} {x : Int32} (hd : decode M.2.2.1 pc = .ok (.istore_n i, 1)) (hp : pc + 1 = pc') (hn : (i : Nat) < M.2.2.2.1) (kk : zw l d M pc' (zs1 i (.int x) L) st σ Q) : zw l d M pc L (.int x :: st) σ Q := by
  subst hp; intro G p e R s m args below meth c cells slots Z hC H locs ls hP hS hl
  exact lv_istore_n hC.1 hC.2.1 hd rfl hl.has hn rfl (fun ls' h => kk G p e R s m args below meth c cells slots Z hC H locs ls' hP hS (zlv.st1 (v := .int x) h))
theorem zw_istore (pc' : Nat) {i : Nat} {x : Int32} (hd : decode M.2.2.1 pc = .ok (.istore i, 2)) (hp : pc + 2 = pc') (hn : i < M.2.2.2.1) (kk : zw l d M pc' (zs1 i (.int x) L) st σ Q) : zw l d M pc L (.int x :: st) σ Q := by
  subst hp; intro G p e R s m args below meth c cells slots Z hC H locs ls hP hS hl
  exact lv_istore hC.1 hC.2.1 hd hl.has hn rfl (fun ls' h => kk G p e R s m args below meth c cells slots Z hC H locs ls' hP hS (zlv.st1 (v := .int x) h))
theorem zw_lstore_n (pc' : Nat) {i : Fin 4} {x : Int64} (hd : decode M.2.2.1 pc = .ok (.lstore_n i, 1)) (hp : pc + 1 = pc') (hn : (i : Nat) + 1 < M.2.2.2.1) (kk : zw l d M pc' (zs2 i (.long x) L) st σ Q) : zw l d M pc L (.long x :: st) σ Q := by
  subst hp; intro G p e R s m args below meth c cells slots Z hC H locs ls hP hS hl
  exact lv_lstore_n hC.1 hC.2.1 hd rfl hl.has hn rfl (fun ls' h => kk G p e R s m args below meth c cells slots Z hC H locs ls' hP hS (zlv.st2 (v := .long x) h))
theorem zw_lstore (pc' : Nat) {i : Nat} {x : Int64} (hd : decode M.2.2.1 pc = .ok (.lstore i, 2)) (hp : pc + 2 = pc') (hn : i + 1 < M.2.2.2.1) (kk : zw l d M pc' (zs2 i (.long x) L) st σ Q) : zw l d M pc L (.long x :: st) σ Q := by
  subst hp; intro G p e R s m args below meth c cells slots Z hC H locs ls hP hS hl
  exact lv_lstore hC.1 hC.2.1 hd hl.has hn rfl (fun ls' h => kk G p e R s m args below meth c cells slots Z hC H locs ls' hP hS (zlv.st2 (v := .long x) h))
theorem zw_astore_n (pc' : Nat) {i : Fin 4} {a : Nat} (hd : decode M.2.2.1 pc = .ok (.astore_n i, 1)) (hp : pc + 1 = pc') (hn : (i : Nat) < M.2.2.2.1) (kk : zw l d M pc' (zs1 i (.ref a) L) st σ Q) : zw l d M pc L (.ref a :: st) σ Q := by
  subst hp; intro G p e R s m args below meth c cells slots Z hC H locs ls hP hS hl
  exact lv_astore_n hC.1 hC.2.1 hd rfl hl.has hn rfl (fun ls' h => kk G p e R s m args below meth c cells slots Z hC H locs ls' hP hS (zlv.st1 (v := .ref a) h))
theorem zw_astore (pc' : Nat) {i : Nat} {a : Nat} (hd : decode M.2.2.1 pc = .ok (.astore i, 2)) (hp : pc + 2 = pc') (hn : i < M.2.2.2.1) (kk : zw l d M pc' (zs1 i (.ref a) L) st σ Q) : zw l d M pc L (.ref a :: st) σ Q := by
  subst hp; intro G p e R s m args below meth c cells slots Z hC H locs ls hP hS hl
  exact lv_astore hC.1 hC.2.1 hd hl.has hn rfl (fun ls' h => kk G p e R s m args below meth c cells slots Z hC H locs ls' hP hS (zlv.st1 (v := .ref a) h))
theorem zw_iinc (pc' : Nat) {i : Nat} {n x : Int} (hd : decode M.2.2.1 pc = .ok (.iinc i n, 3)) (hp : pc + 3 = pc') (hn : i < M.2.2.2.1) (hL : L[i]? = some (some (.int (zI x)))) (kk : zw l d M pc' (zs1 i (.int (zI (x + n))) L) st σ Q) : zw l d M pc L st σ Q := by
  subst hp; intro G p e R s m args below meth c cells slots Z hC H locs ls hP hS hl
  obtain ⟨k, hk⟩ := List.getElem?_of_mem (zas_mem (G := G) hL)
  exact lv_iinc (v := zI (x + n)) hC.1 hC.2.1 hd hl.has (k := k) hk (zI_add x n) hn rfl (fun ls' h => kk G p e R s m args below meth c cells slots Z hC H locs ls' hP hS (zlv.st1 (v := .int (zI (x + n))) h))
theorem zw_dup (pc' : Nat) {v : Value} (hd : decode M.2.2.1 pc = .ok (.dup, 1)) (hp : pc + 1 = pc') (hv : v.category = 1) (kk : zw l d M pc' L (v :: v :: st) σ Q) : zw l d M pc L (v :: st) σ Q := by
  subst hp; intro G p e R s m args below meth c cells slots Z hC H locs ls hP hS hl
  exact lv_dup hC.1 hC.2.1 hd (by rw [ztr_cat]; exact hv) (kk G p e R s m args below meth c cells slots Z hC H locs ls hP hS hl)
theorem zw_pop (pc' : Nat) {v : Value} (hd : decode M.2.2.1 pc = .ok (.pop, 1)) (hp : pc + 1 = pc') (hv : v.category = 1) (kk : zw l d M pc' L st σ Q) : zw l d M pc L (v :: st) σ Q := by
  subst hp; intro G p e R s m args below meth c cells slots Z hC H locs ls hP hS hl
  exact lv_pop hC.1 hC.2.1 hd (by rw [ztr_cat]; exact hv) (kk G p e R s m args below meth c cells slots Z hC H locs ls hP hS hl)
/-! arithmetic -/
theorem zw_iadd (pc' : Nat) {a b : Int} (hd : decode M.2.2.1 pc = .ok (.iadd, 1)) (hp : pc + 1 = pc') (kk : zw l d M pc' L (.int (zI (a + b)) :: st) σ Q) : zw l d M pc L (.int (zI b) :: .int (zI a) :: st) σ Q := by
  subst hp; intro G p e R s m args below meth c cells slots Z hC H locs ls hP hS hl
  exact lv_iadd hC.1 hC.2.1 hd (by rw [zI_add]; exact kk G p e R s m args below meth c cells slots Z hC H locs ls hP hS hl)
theorem zw_isub (pc' : Nat) {a b : Int} (hd : decode M.2.2.1 pc = .ok (.isub, 1)) (hp : pc + 1 = pc') (kk : zw l d M pc' L (.int (zI (a - b)) :: st) σ Q) : zw l d M pc L (.int (zI b) :: .int (zI a) :: st) σ Q := by
  subst hp; intro G p e R s m args below meth c cells slots Z hC H locs ls hP hS hl
  exact lv_isub hC.1 hC.2.1 hd (by rw [zI_sub]; exact kk G p e R s m args below meth c cells slots Z hC H locs ls hP hS hl)
theorem zw_imul (pc' : Nat) {a b : Int} (hd : decode M.2.2.1 pc = .ok (.imul, 1)) (hp : pc + 1 = pc') (kk : zw l d M pc' L (.int (zI (a * b)) :: st) σ Q) : zw l d M pc L (.int (zI b) :: .int (zI a) :: st) σ Q := by
  subst hp; intro G p e R s m args below meth c cells slots Z hC H locs ls hP hS hl
  exact lv_imul hC.1 hC.2.1 hd (by rw [zI_mul]; exact kk G p e R s m args below meth c cells slots Z hC H locs ls hP hS hl)
theorem zw_ladd (pc' : Nat) {a b : Int} (hd : decode M.2.2.1 pc = .ok (.ladd, 1)) (hp : pc + 1 = pc') (kk : zw l d M pc' L (.long (zL (a + b)) :: st) σ Q) : zw l d M pc L (.long (zL b) :: .long (zL a) :: st) σ Q := by
  subst hp; intro G p e R s m args below meth c cells slots Z hC H locs ls hP hS hl
  exact lv_ladd hC.1 hC.2.1 hd (by rw [zL_add]; exact kk G p e R s m args below meth c cells slots Z hC H locs ls hP hS hl)
theorem zw_lsub (pc' : Nat) {a b : Int} (hd : decode M.2.2.1 pc = .ok (.lsub, 1)) (hp : pc + 1 = pc') (kk : zw l d M pc' L (.long (zL (a - b)) :: st) σ Q) : zw l d M pc L (.long (zL b) :: .long (zL a) :: st) σ Q := by
  subst hp; intro G p e R s m args below meth c cells slots Z hC H locs ls hP hS hl
  exact lv_lsub hC.1 hC.2.1 hd (by rw [zL_sub]; exact kk G p e R s m args below meth c cells slots Z hC H locs ls hP hS hl)
theorem zw_lmul (pc' : Nat) {a b : Int} (hd : decode M.2.2.1 pc = .ok (.lmul, 1)) (hp : pc + 1 = pc') (kk : zw l d M pc' L (.long (zL (a * b)) :: st) σ Q) : zw l d M pc L (.long (zL b) :: .long (zL a) :: st) σ Q := by
  subst hp; intro G p e R s m args below meth c cells slots Z hC H locs ls hP hS hl
  exact lv_lmul hC.1 hC.2.1 hd (by rw [zL_mul]; exact kk G p e R s m args below meth c cells slots Z hC H locs ls hP hS hl)
end ZW
end
section
/-! ===== more numbers ===== -/
theorem zI_nat (n : Nat) : zI (n : Int) = nI n := by
  show Int32.ofInt (n : Int) = Int32.ofNat n
  exact Int32.ofInt_eq_ofNat
theorem zL_nat (n : Nat) : zL (n : Int) = lN n := by
  show Int64.ofInt (n : Int) = Int64.ofNat n
  exact Int64.ofInt_eq_ofNat
theorem zI_div {a b : Int} (h : 0 ≤ a) (h1 : a < 2147483648) (h2 : 0 < b) (h3 : b < 2147483648) : zI a / zI b = zI (a / b) := by
  obtain ⟨x, rfl⟩ := Int.eq_ofNat_of_zero_le h
  obtain ⟨y, rfl⟩ := Int.eq_ofNat_of_zero_le (Int.le_of_lt h2)
  rw [← Int.natCast_ediv, zI_nat, zI_nat, zI_nat]
  exact pk_div (by omega) (by omega) (by omega)
theorem zI_rem {a b : Int} (h : 0 ≤ a) (h1 : a < 2147483648) (h2 : 0 < b) (h3 : b < 2147483648) : zI a - zI a / zI b * zI b = zI (a % b) := by
  obtain ⟨x, rfl⟩ := Int.eq_ofNat_of_zero_le h
  obtain ⟨y, rfl⟩ := Int.eq_ofNat_of_zero_le (Int.le_of_lt h2)
  rw [← Int.natCast_emod, zI_nat, zI_nat, zI_nat]
  exact pk_rem (by omega) (by omega) (by omega)
theorem zL_div {a b : Int} (h : 0 ≤ a) (h1 : a < 9223372036854775808) (h2 : 0 < b) (h3 : b < 9223372036854775808) : zL a / zL b = zL (a / b) := by
  obtain ⟨x, rfl⟩ := Int.eq_ofNat_of_zero_le h
  obtain ⟨y, rfl⟩ := Int.eq_ofNat_of_zero_le (Int.le_of_lt h2)
  rw [← Int.natCast_ediv, zL_nat, zL_nat, zL_nat]
  exact pk_lDiv (by omega) (by omega) (by omega)
theorem zL_rem {a b : Int} (h : 0 ≤ a) (h1 : a < 9223372036854775808) (h2 : 0 < b) (h3 : b < 9223372036854775808) : zL a - zL a / zL b * zL b = zL (a % b) := by
  obtain ⟨x, rfl⟩ := Int.eq_ofNat_of_zero_le h
  obtain ⟨y, rfl⟩ := Int.eq_ofNat_of_zero_le (Int.le_of_lt h2)
  rw [← Int.natCast_emod, zL_nat, zL_nat, zL_nat]
  exact pk_lRem (by omega) (by omega) (by omega)
theorem zI_ne0 {b : Int} (h2 : 0 < b) (h3 : b < 2147483648) : ¬ zI b = 0 := by
  rw [show (0 : Int32) = zI 0 from rfl, zI_eq (by omega) h3 (by omega) (by omega)]; omega
theorem zL_eq {a b : Int} (ha : -9223372036854775808 ≤ a) (ha2 : a < 9223372036854775808) (hb : -9223372036854775808 ≤ b) (hb2 : b < 9223372036854775808) : zL a = zL b ↔ a = b := by
  constructor
  · intro h
    have := congrArg Int64.toInt h
    rwa [zL_toInt ha ha2, zL_toInt hb hb2] at this
  · intro h; rw [h]
theorem zL_ne0 {b : Int} (h2 : 0 < b) (h3 : b < 9223372036854775808) : ¬ zL b = 0 := by
  rw [show (0 : Int64) = zL 0 from rfl, zL_eq (by omega) h3 (by omega) (by omega)]; omega
theorem zI_long {a : Int} (h : -2147483648 ≤ a) (h1 : a < 2147483648) : (zI a).toInt64 = zL a := by
  apply Int64.toInt_inj.mp
  rw [zL_toInt (by omega) (by omega), Int32.toInt_toInt64, zI_toInt h h1]
def zcmp (a b : Int) : Int := if a < b then -1 else if a = b then 0 else 1
theorem zcmp_spec (a b : Int) : (a < b ∧ zcmp a b = -1) ∨ (a = b ∧ zcmp a b = 0) ∨ (b < a ∧ zcmp a b = 1) := by
  unfold zcmp
  by_cases h : a < b
  · exact Or.inl ⟨h, if_pos h⟩
  · by_cases h2 : a = b
    · exact Or.inr (Or.inl ⟨h2, by rw [if_neg h, if_pos h2]⟩)
    · exact Or.inr (Or.inr ⟨by omega, by rw [if_neg h, if_neg h2]⟩)
theorem zcmp_eq {a b : Int} (ha : -9223372036854775808 ≤ a) (ha2 : a < 9223372036854775808) (hb : -9223372036854775808 ≤ b) (hb2 : b < 9223372036854775808) : lg_cmp (zL a) (zL b) = zI (zcmp a b) := by
  have hl : ∀ x y : Int, -9223372036854775808 ≤ x → x < 9223372036854775808 → -9223372036854775808 ≤ y → y < 9223372036854775808 → (zL x < zL y ↔ x < y) := fun x y h1 h2 h3 h4 => by
    rw [Int64.lt_iff_toInt_lt, zL_toInt h1 h2, zL_toInt h3 h4]
  unfold lg_cmp
  rcases zcmp_spec a b with ⟨h, e⟩ | ⟨h, e⟩ | ⟨h, e⟩
  · rw [e, if_neg (by rw [gt_iff_lt, hl b a hb hb2 ha ha2]; omega), if_neg (by rw [zL_eq ha ha2 hb hb2]; omega)]; rfl
  · rw [e, if_neg (by rw [gt_iff_lt, hl b a hb hb2 ha ha2]; omega), if_pos (by rw [zL_eq ha ha2 hb hb2]; exact h)]; rfl
  · rw [e, if_pos (by rw [gt_iff_lt, hl b a hb hb2 ha ha2]; exact h)]; rfl
section ZX
variable {l : Launch} {d : Nat} {M : zMth} {pc : Nat} {L : List (Option Value)} {st : List Value} {σ : zMem} {Q : Option Value → zMem → Prop} {k : Nat}
theorem zw_idiv (pc' : Nat) {a b : Int} (hd : decode M.2.2.1 pc = .ok (.idiv, 1)) (hp : pc + 1 = pc') (h : 0 ≤ a ∧ a < 2147483648) (h2 : 0 < b ∧ b < 2147483648) (kk : zw l d M pc' L (.int (zI (a / b)) :: st) σ Q) : zw l d M pc L (.int (zI b) :: .int (zI a) :: st) σ Q := by
  subst hp; intro G p e R s m args below meth c cells slots Z hC H locs ls hP hS hl
  exact lv_idiv hC.1 hC.2.1 hd (zI_ne0 h2.1 h2.2) (by rw [zI_div h.1 h.2 h2.1 h2.2]; exact kk G p e R s m args below meth c cells slots Z hC H locs ls hP hS hl)
theorem zw_irem (pc' : Nat) {a b : Int} (hd : decode M.2.2.1 pc = .ok (.irem, 1)) (hp : pc + 1 = pc') (h : 0 ≤ a ∧ a < 2147483648) (h2 : 0 < b ∧ b < 2147483648) (kk : zw l d M pc' L (.int (zI (a % b)) :: st) σ Q) : zw l d M pc L (.int (zI b) :: .int (zI a) :: st) σ Q := by
  subst hp; intro G p e R s m args below meth c cells slots Z hC H locs ls hP hS hl
  exact lv_irem hC.1 hC.2.1 hd (zI_ne0 h2.1 h2.2) (by rw [zI_rem h.1 h.2 h2.1 h2.2]; exact kk G p e R s m args below meth c cells slots Z hC H locs ls hP hS hl)
theorem zw_ldiv (pc' : Nat) {a b : Int} (hd : decode M.2.2.1 pc = .ok (.ldiv, 1)) (hp : pc + 1 = pc') (h : 0 ≤ a ∧ a < 9223372036854775808) (h2 : 0 < b ∧ b < 9223372036854775808) (kk : zw l d M pc' L (.long (zL (a / b)) :: st) σ Q) : zw l d M pc L (.long (zL b) :: .long (zL a) :: st) σ Q := by
  subst hp; intro G p e R s m args below meth c cells slots Z hC H locs ls hP hS hl
  exact lv_ldiv hC.1 hC.2.1 hd (zL_ne0 h2.1 h2.2) (by rw [zL_div h.1 h.2 h2.1 h2.2]; exact kk G p e R s m args below meth c cells slots Z hC H locs ls hP hS hl)
theorem zw_lrem (pc' : Nat) {a b : Int} (hd : decode M.2.2.1 pc = .ok (.lrem, 1)) (hp : pc + 1 = pc') (h : 0 ≤ a ∧ a < 9223372036854775808) (h2 : 0 < b ∧ b < 9223372036854775808) (kk : zw l d M pc' L (.long (zL (a % b)) :: st) σ Q) : zw l d M pc L (.long (zL b) :: .long (zL a) :: st) σ Q := by
  subst hp; intro G p e R s m args below meth c cells slots Z hC H locs ls hP hS hl
  exact lv_lrem hC.1 hC.2.1 hd (zL_ne0 h2.1 h2.2) (by rw [zL_rem h.1 h.2 h2.1 h2.2]; exact kk G p e R s m args below meth c cells slots Z hC H locs ls hP hS hl)
theorem zw_i2l (pc' : Nat) {a : Int} (hd : decode M.2.2.1 pc = .ok (.i2l, 1)) (hp : pc + 1 = pc') (h : -2147483648 ≤ a ∧ a < 2147483648) (kk : zw l d M pc' L (.long (zL a) :: st) σ Q) : zw l d M pc L (.int (zI a) :: st) σ Q := by
  subst hp; intro G p e R s m args below meth c cells slots Z hC H locs ls hP hS hl
  exact lv_i2l hC.1 hC.2.1 hd (zI_long h.1 h.2) (kk G p e R s m args below meth c cells slots Z hC H locs ls hP hS hl)
theorem zw_l2i (pc' : Nat) {a : Int} (hd : decode M.2.2.1 pc = .ok (.l2i, 1)) (hp : pc + 1 = pc') (h : -2147483648 ≤ a ∧ a < 2147483648) (kk : zw l d M pc' L (.int (zI a) :: st) σ Q) : zw l d M pc L (.long (zL a) :: st) σ Q := by
  subst hp; intro G p e R s m args below meth c cells slots Z hC H locs ls hP hS hl
  refine lv_l2i hC.1 hC.2.1 hd ?_ (kk G p e R s m args below meth c cells slots Z hC H locs ls hP hS hl)
  rw [← zI_long h.1 h.2]; exact Int32.toInt32_toInt64 _
theorem zw_i2b (pc' : Nat) {a : Int} (hd : decode M.2.2.1 pc = .ok (.i2b, 1)) (hp : pc + 1 = pc') (hv : (zI a).toInt8.toInt32 = zI a) (kk : zw l d M pc' L (.int (zI a) :: st) σ Q) : zw l d M pc L (.int (zI a) :: st) σ Q := by
  subst hp; intro G p e R s m args below meth c cells slots Z hC H locs ls hP hS hl
  exact lv_i2b hC.1 hC.2.1 hd hv (kk G p e R s m args below meth c cells slots Z hC H locs ls hP hS hl)
theorem zw_i2c (pc' : Nat) {a : Int} (hd : decode M.2.2.1 pc = .ok (.i2c, 1)) (hp : pc + 1 = pc') (hv : ((zI a).toUInt32 % 65536).toInt32 = zI a) (kk : zw l d M pc' L (.int (zI a) :: st) σ Q) : zw l d M pc L (.int (zI a) :: st) σ Q := by
  subst hp; intro G p e R s m args below meth c cells slots Z hC H locs ls hP hS hl
  exact lv_i2c hC.1 hC.2.1 hd hv (kk G p e R s m args below meth c cells slots Z hC H locs ls hP hS hl)
theorem zw_ishl (pc' : Nat) (v : Int) {a b : Int} (hd : decode M.2.2.1 pc = .ok (.ishl, 1)) (hp : pc + 1 = pc') (hv : zI a <<< (zI b &&& 31) = zI v) (kk : zw l d M pc' L (.int (zI v) :: st) σ Q) : zw l d M pc L (.int (zI b) :: .int (zI a) :: st) σ Q := by
  subst hp; intro G p e R s m args below meth c cells slots Z hC H locs ls hP hS hl
  exact lv_ishl hC.1 hC.2.1 hd (by rw [hv]; exact kk G p e R s m args below meth c cells slots Z hC H locs ls hP hS hl)
theorem zw_ishr (pc' : Nat) (v : Int) {a b : Int} (hd : decode M.2.2.1 pc = .ok (.ishr, 1)) (hp : pc + 1 = pc') (hv : zI a >>> (zI b &&& 31) = zI v) (kk : zw l d M pc' L (.int (zI v) :: st) σ Q) : zw l d M pc L (.int (zI b) :: .int (zI a) :: st) σ Q := by
  subst hp; intro G p e R s m args below meth c cells slots Z hC H locs ls hP hS hl
  exact lv_ishr hC.1 hC.2.1 hd (by rw [hv]; exact kk G p e R s m args below meth c cells slots Z hC H locs ls hP hS hl)
theorem zw_iand (pc' : Nat) (v : Int) {a b : Int} (hd : decode M.2.2.1 pc = .ok (.iand, 1)) (hp : pc + 1 = pc') (hv : zI a &&& zI b = zI v) (kk : zw l d M pc' L (.int (zI v) :: st) σ Q) : zw l d M pc L (.int (zI b) :: .int (zI a) :: st) σ Q := by
  subst hp; intro G p e R s m args below meth c cells slots Z hC H locs ls hP hS hl
  exact lv_iand hC.1 hC.2.1 hd (by rw [hv]; exact kk G p e R s m args below meth c cells slots Z hC H locs ls hP hS hl)
theorem zw_ior (pc' : Nat) (v : Int) {a b : Int} (hd : decode M.2.2.1 pc = .ok (.ior, 1)) (hp : pc + 1 = pc') (hv : zI a ||| zI b = zI v) (kk : zw l d M pc' L (.int (zI v) :: st) σ Q) : zw l d M pc L (.int (zI b) :: .int (zI a) :: st) σ Q := by
  subst hp; intro G p e R s m args below meth c cells slots Z hC H locs ls hP hS hl
  exact lv_ior hC.1 hC.2.1 hd (by rw [hv]; exact kk G p e R s m args below meth c cells slots Z hC H locs ls hP hS hl)
theorem zw_lcmp (pc' : Nat) {a b : Int} (hd : decode M.2.2.1 pc = .ok (.lcmp, 1)) (hp : pc + 1 = pc') (ha : -9223372036854775808 ≤ a ∧ a < 9223372036854775808) (hb : -9223372036854775808 ≤ b ∧ b < 9223372036854775808) (kk : zw l d M pc' L (.int (zI (zcmp a b)) :: st) σ Q) : zw l d M pc L (.long (zL b) :: .long (zL a) :: st) σ Q := by
  subst hp; intro G p e R s m args below meth c cells slots Z hC H locs ls hP hS hl
  exact W.lcmp hC.1 hC.2.1 hd (by rw [zcmp_eq ha.1 ha.2 hb.1 hb.2]; exact kk G p e R s m args below meth c cells slots Z hC H locs ls hP hS hl)
theorem zw_dup2_11 (pc' : Nat) {v w : Value} (hd : decode M.2.2.1 pc = .ok (.dup2, 1)) (hp : pc + 1 = pc') (hv : v.category = 1) (hw : w.category = 1) (kk : zw l d M pc' L (v :: w :: v :: w :: st) σ Q) : zw l d M pc L (v :: w :: st) σ Q := by
  subst hp; intro G p e R s m args below meth c cells slots Z hC H locs ls hP hS hl
  exact lv_dup2_11 hC.1 hC.2.1 hd (by rw [ztr_cat]; exact hv) (by rw [ztr_cat]; exact hw) (kk G p e R s m args below meth c cells slots Z hC H locs ls hP hS hl)
/-! branches -/
theorem zw_goto (tgt : Nat) {off : Int} (hd : decode M.2.2.1 pc = .ok (.goto off, 3)) (ht : (pc : Int) + off = (tgt : Int)) (kk : zw l d M tgt L st σ Q) : zw l d M pc L st σ Q := by
  intro G p e R s m args below meth c cells slots Z hC H locs ls hP hS hl
  exact lv_goto hC.1 hC.2.1 hd ht (kk G p e R s m args below meth c cells slots Z hC H locs ls hP hS hl)
theorem zw_tableOut (tgt : Nat) {dflt lo hi : Int} {offs : Array Int} {len : Nat} {x : Int} (hd : decode M.2.2.1 pc = .ok (.tableswitch dflt lo hi offs, len)) (hb : -2147483648 ≤ x ∧ x < 2147483648) (h : x < lo ∨ hi < x) (ht : (pc : Int) + dflt = (tgt : Int)) (kk : zw l d M tgt L st σ Q) : zw l d M pc L (.int (zI x) :: st) σ Q := by
  intro G p e R s m args below meth c cells slots Z hC H locs ls hP hS hl
  exact lv_tableOut hC.1 hC.2.1 hd (by rw [zI_toInt hb.1 hb.2]; exact h) ht (kk G p e R s m args below meth c cells slots Z hC H locs ls hP hS hl)
theorem zw_tableIn (tgt : Nat) {dflt lo hi : Int} {offs : Array Int} {len : Nat} {x : Int} {off : Int} (hd : decode M.2.2.1 pc = .ok (.tableswitch dflt lo hi offs, len)) (hb : -2147483648 ≤ x ∧ x < 2147483648) (h1 : ¬ x < lo) (h2 : ¬ hi < x) (ho : offs[(x - lo).toNat]? = some off) (ht : (pc : Int) + off = (tgt : Int)) (kk : zw l d M tgt L st σ Q) : zw l d M pc L (.int (zI x) :: st) σ Q := by
  intro G p e R s m args below meth c cells slots Z hC H locs ls hP hS hl
  have e0 := zI_toInt hb.1 hb.2
  exact lv_tableIn hC.1 hC.2.1 hd (by rw [e0]; exact h1) (by rw [e0]; exact h2) (by rw [e0]; exact ho) ht (kk G p e R s m args below meth c cells slots Z hC H locs ls hP hS hl)
theorem zw_icmp_eq (tgt pc2 : Nat) {a b : Int} {off : Int} (hd : decode M.2.2.1 pc = .ok (.if_icmp .eq off, 3)) (ht : (pc : Int) + off = (tgt : Int)) (hp : pc + 3 = pc2) (ha : -2147483648 ≤ a ∧ a < 2147483648) (hb : -2147483648 ≤ b ∧ b < 2147483648) (kt : a = b → zw l d M tgt L st σ Q) (kf : ¬ a = b → zw l d M pc2 L st σ Q) : zw l d M pc L (.int (zI b) :: .int (zI a) :: st) σ Q := by
  subst hp; intro G p e R s m args below meth c cells slots Z hC H locs ls hP hS hl
  exact lv_icmp_eq hC.1 hC.2.1 hd ht (fun q => kt ((zI_eq (a := a) (b := b) ha.1 ha.2 hb.1 hb.2).mp q) G p e R s m args below meth c cells slots Z hC H locs ls hP hS hl) (fun q => kf (fun z => q ((zI_eq (a := a) (b := b) ha.1 ha.2 hb.1 hb.2).mpr z)) G p e R s m args below meth c cells slots Z hC H locs ls hP hS hl)
theorem zw_if_eq (tgt pc2 : Nat) {a : Int} {off : Int} (hd : decode M.2.2.1 pc = .ok (.ifCond .eq off, 3)) (ht : (pc : Int) + off = (tgt : Int)) (hp : pc + 3 = pc2) (ha : -2147483648 ≤ a ∧ a < 2147483648) (kt : a = 0 → zw l d M tgt L st σ Q) (kf : ¬ a = 0 → zw l d M pc2 L st σ Q) : zw l d M pc L (.int (zI a) :: st) σ Q := by
  subst hp; intro G p e R s m args below meth c cells slots Z hC H locs ls hP hS hl
  exact lv_if_eq hC.1 hC.2.1 hd ht (fun q => kt ((zI_eq (a := a) (b := 0) ha.1 ha.2 (by decide : (-2147483648 : Int) ≤ 0) (by decide : (0 : Int) < 2147483648)).mp q) G p e R s m args below meth c cells slots Z hC H locs ls hP hS hl) (fun q => kf (fun z => q ((zI_eq (a := a) (b := 0) ha.1 ha.2 (by decide : (-2147483648 : Int) ≤ 0) (by decide : (0 : Int) < 2147483648)).mpr z)) G p e R s m args below meth c cells slots Z hC H locs ls hP hS hl)
theorem zw_icmp_ne (tgt pc2 : Nat) {a b : Int} {off : Int} (hd : decode M.2.2.1 pc = .ok (.if_icmp .ne off, 3)) (ht : (pc : Int) + off = (tgt : Int)) (hp : pc + 3 = pc2) (ha : -2147483648 ≤ a ∧ a < 2147483648) (hb : -2147483648 ≤ b ∧ b < 2147483648) (kt : ¬ a = b → zw l d M tgt L st σ Q) (kf : a = b → zw l d M pc2 L st σ Q) : zw l d M pc L (.int (zI b) :: .int (zI a) :: st) σ Q := by
  subst hp; intro G p e R s m args below meth c cells slots Z hC H locs ls hP hS hl
  exact lv_icmp_ne hC.1 hC.2.1 hd ht (fun q => kt (fun z => q ((zI_eq (a := a) (b := b) ha.1 ha.2 hb.1 hb.2).mpr z)) G p e R s m args below meth c cells slots Z hC H locs ls hP hS hl) (fun q => kf ((zI_eq (a := a) (b := b) ha.1 ha.2 hb.1 hb.2).mp q) G p e R s m args below meth c cells slots Z hC H locs ls hP hS hl)
theorem zw_if_ne (tgt pc2 : Nat) {a : Int} {off : Int} (hd : decode M.2.2.1 pc = .ok (.ifCond .ne off, 3)) (ht : (pc : Int) + off = (tgt : Int)) (hp : pc + 3 = pc2) (ha : -2147483648 ≤ a ∧ a < 2147483648) (kt : ¬ a = 0 → zw l d M tgt L st σ Q) (kf : a = 0 → zw l d M pc2 L st σ Q) : zw l d M pc L (.int (zI a) :: st) σ Q := by
  subst hp; intro G p e R s m args below meth c cells slots Z hC H locs ls hP hS hl
  exact lv_if_ne hC.1 hC.2.1 hd ht (fun q => kt (fun z => q ((zI_eq (a := a) (b := 0) ha.1 ha.2 (by decide : (-2147483648 : Int) ≤ 0) (by decide : (0 : Int) < 2147483648)).mpr z)) G p e R s m args below meth c cells slots Z hC H locs ls hP hS hl) (fun q => kf ((zI_eq (a := a) (b := 0) ha.1 ha.2 (by decide : (-2147483648 : Int) ≤ 0) (by decide : (0 : Int) < 2147483648)).mp q) G p e R s m args below meth c cells slots Z hC H locs ls hP hS hl)
theorem zw_icmp_lt (tgt pc2 : Nat) {a b : Int} {off : Int} (hd : decode M.2.2.1 pc = .ok (.if_icmp .lt off, 3)) (ht : (pc : Int) + off = (tgt : Int)) (hp : pc + 3 = pc2) (ha : -2147483648 ≤ a ∧ a < 2147483648) (hb : -2147483648 ≤ b ∧ b < 2147483648) (kt : a < b → zw l d M tgt L st σ Q) (kf : b ≤ a → zw l d M pc2 L st σ Q) : zw l d M pc L (.int (zI b) :: .int (zI a) :: st) σ Q := by
  subst hp; intro G p e R s m args below meth c cells slots Z hC H locs ls hP hS hl
  exact lv_icmp_lt hC.1 hC.2.1 hd ht (fun q => kt ((zI_lt (a := a) (b := b) ha.1 ha.2 hb.1 hb.2).mp q) G p e R s m args below meth c cells slots Z hC H locs ls hP hS hl) (fun q => kf (Int.not_lt.mp (fun z => q ((zI_lt (a := a) (b := b) ha.1 ha.2 hb.1 hb.2).mpr z))) G p e R s m args below meth c cells slots Z hC H locs ls hP hS hl)
theorem zw_if_lt (tgt pc2 : Nat) {a : Int} {off : Int} (hd : decode M.2.2.1 pc = .ok (.ifCond .lt off, 3)) (ht : (pc : Int) + off = (tgt : Int)) (hp : pc + 3 = pc2) (ha : -2147483648 ≤ a ∧ a < 2147483648) (kt : a < 0 → zw l d M tgt L st σ Q) (kf : 0 ≤ a → zw l d M pc2 L st σ Q) : zw l d M pc L (.int (zI a) :: st) σ Q := by
  subst hp; intro G p e R s m args below meth c cells slots Z hC H locs ls hP hS hl
  exact lv_if_lt hC.1 hC.2.1 hd ht (fun q => kt ((zI_lt (a := a) (b := 0) ha.1 ha.2 (by decide : (-2147483648 : Int) ≤ 0) (by decide : (0 : Int) < 2147483648)).mp q) G p e R s m args below meth c cells slots Z hC H locs ls hP hS hl) (fun q => kf (Int.not_lt.mp (fun z => q ((zI_lt (a := a) (b := 0) ha.1 ha.2 (by decide : (-2147483648 : Int) ≤ 0) (by decide : (0 : Int) < 2147483648)).mpr z))) G p e R s m args below meth c cells slots Z hC H locs ls hP hS hl)
theorem zw_icmp_ge (tgt pc2 : Nat) {a b : Int} {off : Int} (hd : decode M.2.2.1 pc = .ok (.if_icmp .ge off, 3)) (ht : (pc : Int) + off = (tgt : Int)) (hp : pc + 3 = pc2) (ha : -2147483648 ≤ a ∧ a < 2147483648) (hb : -2147483648 ≤ b ∧ b < 2147483648) (kt : b ≤ a → zw l d M tgt L st σ Q) (kf : a < b → zw l d M pc2 L st σ Q) : zw l d M pc L (.int (zI b) :: .int (zI a) :: st) σ Q := by
  subst hp; intro G p e R s m args below meth c cells slots Z hC H locs ls hP hS hl
  exact lv_icmp_ge hC.1 hC.2.1 hd ht (fun q => kt ((zI_le (a := b) (b := a) hb.1 hb.2 ha.1 ha.2).mp q) G p e R s m args below meth c cells slots Z hC H locs ls hP hS hl) (fun q => kf (Int.not_le.mp (fun z => q ((zI_le (a := b) (b := a) hb.1 hb.2 ha.1 ha.2).mpr z))) G p e R s m args below meth c cells slots Z hC H locs ls hP hS hl)
theorem zw_if_ge (tgt pc2 : Nat) {a : Int} {off : Int} (hd : decode M.2.2.1 pc = .ok (.ifCond .ge off, 3)) (ht : (pc : Int) + off = (tgt : Int)) (hp : pc + 3 = pc2) (ha : -2147483648 ≤ a ∧ a < 2147483648) (kt : 0 ≤ a → zw l d M tgt L st σ Q) (kf : a < 0 → zw l d M pc2 L st σ Q) : zw l d M pc L (.int (zI a) :: st) σ Q := by
  subst hp; intro G p e R s m args below meth c cells slots Z hC H locs ls hP hS hl
  exact lv_if_ge hC.1 hC.2.1 hd ht (fun q => kt ((zI_le (a := 0) (b := a) (by decide : (-2147483648 : Int) ≤ 0) (by decide : (0 : Int) < 2147483648) ha.1 ha.2).mp q) G p e R s m args below meth c cells slots Z hC H locs ls hP hS hl) (fun q => kf (Int.not_le.mp (fun z => q ((zI_le (a := 0) (b := a) (by decide : (-2147483648 : Int) ≤ 0) (by decide : (0 : Int) < 2147483648) ha.1 ha.2).mpr z))) G p e R s m args below meth c cells slots Z hC H locs ls hP hS hl)
theorem zw_icmp_gt (tgt pc2 : Nat) {a b : Int} {off : Int} (hd : decode M.2.2.1 pc = .ok (.if_icmp .gt off, 3)) (ht : (pc : Int) + off = (tgt : Int)) (hp : pc + 3 = pc2) (ha : -2147483648 ≤ a ∧ a < 2147483648) (hb : -2147483648 ≤ b ∧ b < 2147483648) (kt : b < a → zw l d M tgt L st σ Q) (kf : a ≤ b → zw l d M pc2 L st σ Q) : zw l d M pc L (.int (zI b) :: .int (zI a) :: st) σ Q := by
  subst hp; intro G p e R s m args below meth c cells slots Z hC H locs ls hP hS hl
  exact lv_icmp_gt hC.1 hC.2.1 hd ht (fun q => kt ((zI_lt (a := b) (b := a) hb.1 hb.2 ha.1 ha.2).mp q) G p e R s m args below meth c cells slots Z hC H locs ls hP hS hl) (fun q => kf (Int.not_lt.mp (fun z => q ((zI_lt (a := b) (b := a) hb.1 hb.2 ha.1 ha.2).mpr z))) G p e R s m args below meth c cells slots Z hC H locs ls hP hS hl)
theorem zw_if_gt (tgt pc2 : Nat) {a : Int} {off : Int} (hd : decode M.2.2.1 pc = .ok (.ifCond .gt off, 3)) (ht : (pc : Int) + off = (tgt : Int)) (hp : pc + 3 = pc2) (ha : -2147483648 ≤ a ∧ a < 2147483648) (kt : 0 < a → zw l d M tgt L st σ Q) (kf : a ≤ 0 → zw l d M pc2 L st σ Q) : zw l d M pc L (.int (zI a) :: st) σ Q := by
  subst hp; intro G p e R s m args below meth c cells slots Z hC H locs ls hP hS hl
  exact lv_if_gt hC.1 hC.2.1 hd ht (fun q => kt ((zI_lt (a := 0) (b := a) (by decide : (-2147483648 : Int) ≤ 0) (by decide : (0 : Int) < 2147483648) ha.1 ha.2).mp q) G p e R s m args below meth c cells slots Z hC H locs ls hP hS hl) (fun q => kf (Int.not_lt.mp (fun z => q ((zI_lt (a := 0) (b := a) (by decide : (-2147483648 : Int) ≤ 0) (by decide : (0 : Int) < 2147483648) ha.1 ha.2).mpr z))) G p e R s m args below meth c cells slots Z hC H locs ls hP hS hl)
theorem zw_icmp_le (tgt pc2 : Nat) {a b : Int} {off : Int} (hd : decode M.2.2.1 pc = .ok (.if_icmp .le off, 3)) (ht : (pc : Int) + off = (tgt : Int)) (hp : pc + 3 = pc2) (ha : -2147483648 ≤ a ∧ a < 2147483648) (hb : -2147483648 ≤ b ∧ b < 2147483648) (kt : a ≤ b → zw l d M tgt L st σ Q) (kf : b < a → zw l d M pc2 L st σ Q) : zw l d M pc L (.int (zI b) :: .int (zI a) :: st) σ Q := by
  subst hp; intro G p e R s m args below meth c cells slots Z hC H locs ls hP hS hl
  exact lv_icmp_le hC.1 hC.2.1 hd ht (fun q => kt ((zI_le (a := a) (b := b) ha.1 ha.2 hb.1 hb.2).mp q) G p e R s m args below meth c cells slots Z hC H locs ls hP hS hl) (fun q => kf (Int.not_le.mp (fun z => q ((zI_le (a := a) (b := b) ha.1 ha.2 hb.1 hb.2).mpr z))) G p e R s m args below meth c cells slots Z hC H locs ls hP hS hl)
theorem zw_if_le (tgt pc2 : Nat) {a : Int} {off : Int} (hd : decode M.2.2.1 pc = .ok (.ifCond .le off, 3)) (ht : (pc : Int) + off = (tgt : Int)) (hp : pc + 3 = pc2) (ha : -2147483648 ≤ a ∧ a < 2147483648) (kt : a ≤ 0 → zw l d M tgt L st σ Q) (kf : 0 < a → zw l d M pc2 L st σ Q) : zw l d M pc L (.int (zI a) :: st) σ Q := by
  subst hp; intro G p e R s m args below meth c cells slots Z hC H locs ls hP hS hl
  exact lv_if_le hC.1 hC.2.1 hd ht (fun q => kt ((zI_le (a := a) (b := 0) ha.1 ha.2 (by decide : (-2147483648 : Int) ≤ 0) (by decide : (0 : Int) < 2147483648)).mp q) G p e R s m args below meth c cells slots Z hC H locs ls hP hS hl) (fun q => kf (Int.not_le.mp (fun z => q ((zI_le (a := a) (b := 0) ha.1 ha.2 (by decide : (-2147483648 : Int) ≤ 0) (by decide : (0 : Int) < 2147483648)).mpr z))) G p e R s m args below meth c cells slots Z hC H locs ls hP hS hl)
end ZX
end
section
/-! ===== fields ===== -/
theorem zcls : ∀ (ci : Nat) (q : vw_C), vwCl[ci]? = some q → (∀ w ∈ u_ws q.1 q.2.1 q.2.2, w ∈ ztbl) ∧ (∀ k, k < q.2.2 → (q.2.1 k).1 = q.1) ∧ (∀ a, a < q.2.2 → ∀ b, b < q.2.2 → a ≠ b → (q.2.1 a).2.1 ≠ (q.2.1 b).2.1) ∧ ∃ ty : Nat → FieldType, ∀ k, k < q.2.2 → parseFieldDescriptor (q.2.1 k).2.2.1 = some (ty k) := by
  intro ci q h
  match ci, h with
  | 0, h => cases h; exact ⟨by decide +kernel, by decide +kernel, nmX0, tyX0, tyX0_ok⟩
  | 1, h => cases h; exact ⟨by decide +kernel, by decide +kernel, nmX1, tyX1, tyX1_ok⟩
  | 2, h => cases h; exact ⟨by decide +kernel, by decide +kernel, nmX2, tyX2, tyX2_ok⟩
  | 3, h => cases h; exact ⟨by decide +kernel, by decide +kernel, nmX3, tyX3, tyX3_ok⟩
  | 4, h => cases h; exact ⟨by decide +kernel, by decide +kernel, nmX4, tyX4, tyX4_ok⟩
  | 5, h => cases h; exact ⟨by decide +kernel, by decide +kernel, nmX5, tyX5, tyX5_ok⟩
  | 6, h => cases h; exact ⟨by decide +kernel, by decide +kernel, nmX6, tyX6, tyX6_ok⟩
  | k + 7, h => simp [vwCl] at h
def zfl (own : String) (idx ci j : Nat) : Prop := ∃ q : vw_C, vwCl[ci]? = some q ∧ j < q.2.2 ∧ Cond.fieldLink own idx q.1 (q.2.1 j).2.1 (q.2.1 j).2.2.1 ∈ ztbl
def zfp (own : String) (idx ci j : Nat) (ty : FieldType) : Prop := ∃ q : vw_C, vwCl[ci]? = some q ∧ j < q.2.2 ∧ Cond.fieldLink own idx q.1 (q.2.1 j).2.1 (q.2.1 j).2.2.1 ∈ ztbl ∧ (q.2.1 j).2.2.2 = false ∧ parseFieldDescriptor (q.2.1 j).2.2.1 = some ty
def zlyc (r : Nat) : Bool := match zly r with
  | some kn => if kn.1 < 100 then (match vwCl[kn.1]? with
    | some q => kn.2 == q.2.2
    | none => false) else decide (kn.2 < 1000)
  | none => true
theorem zlyc_ok : ∀ r, r < 300 → zlyc r = true := by decide +kernel
theorem zly_cls : ∀ r, r < 300 → ∀ kn, zly r = some kn → kn.1 < 100 → ∃ q, vwCl[kn.1]? = some q ∧ kn.2 = q.2.2 := by
  intro r hr kn h hk
  have h2 := zlyc_ok r hr
  unfold zlyc at h2
  rw [h] at h2
  dsimp only at h2
  rw [if_pos hk] at h2
  split at h2
  · rename_i q hq
    exact ⟨q, hq, by simpa using h2⟩
  · cases h2
theorem zly_300 {r : Nat} {kn : Nat × Nat} (h : zly r = some kn) : r < 300 := by
  unfold zly at h
  split at h
  · cases h
  · have := (List.getElem?_eq_some_iff.mp h).1
    rw [zLAY_len] at this
    omega
section ZH
variable {l : Launch} {d : Nat} {M : zMth} {pc : Nat} {L : List (Option Value)} {st : List Value} {σ : zMem} {Q : Option Value → zMem → Prop} {k : Nat}
theorem zE_obj (G : zG) (f : Int → Int) (r : Nat) {ci N : Nat} (h : ci < 100) : zE G f r (ci, N) = .inr (ci, (List.range N).map (fun j => zfv G f ci r j)) := if_pos h
theorem zE_int (G : zG) (f : Int → Int) (r : Nat) {k n : Nat} (h : 100 ≤ k) (h2 : k < 103) : zE G f r (k, n) = .inl (zGA G k, n, .inl (fun j => zI (f j))) := by
  show (if k < 100 then _ else if k < 103 then _ else _) = _
  rw [if_neg (by omega), if_pos h2]
theorem zE_ref (G : zG) (f : Int → Int) (r : Nat) {k n : Nat} (h : 103 ≤ k) : zE G f r (k, n) = .inl (zGA G k, n, .inr (.inr (.inr (.inr (fun j => some (zad G (f j).toNat)))))) := by
  show (if k < 100 then _ else if k < 103 then _ else _) = _
  rw [if_neg (by omega), if_neg (by omega)]
/-- a field is read: v, as the layout says it -/
theorem zw_get (pc' : Nat) {idx ci j a N : Nat} {v : Value} (hd : decode M.2.2.1 pc = .ok (.getfield idx, 3)) (hp : pc + 3 = pc') (hf : zfl M.1 idx ci j) (hc : ci < 100) (hy : zly a = some (ci, N)) (hv : ∀ G, zfv G (σ a) ci a j = ztr G v) (kk : zw l d M pc' L (v :: st) σ Q) : zw l d M pc L (.ref a :: st) σ Q := by
  subst hp; intro G p e R s m args below meth c cells slots Z hC H locs ls hP hS hl
  obtain ⟨⟨C, T, n⟩, hq, hj, hw⟩ := hf
  obtain ⟨hin, hcl, hnm, ty, hty⟩ := zcls ci _ hq
  obtain ⟨q2, hq2, hN⟩ := zly_cls a (zly_300 hy) _ hy hc
  have e2 : q2 = (C, T, n) := Option.some.inj (hq2.symm.trans hq)
  subst e2
  dsimp only at hN hj hw hin hcl
  subst hN
  have hx := zWs_get (G := G) (σ := σ) hy
  rw [zE_obj G _ _ hc] at hx
  exact va_get (C := C) (T := T) (N := N) (ref := C) hC.1 hC.2.1 hC.2.2.2.2.1 hin hC.2.2.2.1 hC.2.2.2.2.2.1 hP (a - 1) hx hq j hj (hC.2.2.2.2.1 _ hw) (by rw [hcl j hj]; exact fun _ h => h) (v := ztr G v) (by rw [← hv G]; simp [hj]) hd (kk G p e R s m args below meth c cells slots Z hC H locs ls hP hS hl)
theorem zw_geti (pc' : Nat) {idx ci j a N : Nat} (hd : decode M.2.2.1 pc = .ok (.getfield idx, 3)) (hp : pc + 3 = pc') (hf : zfl M.1 idx ci j) (hc : ci < 100) (ht : zft ci j = 0) (hy : zly a = some (ci, N)) (kk : zw l d M pc' L (.int (zI (σ a (j : Int))) :: st) σ Q) : zw l d M pc L (.ref a :: st) σ Q :=
  zw_get pc' hd hp hf hc hy (fun G => by simp [zfv, ht, ztr]) kk
theorem zw_getl (pc' : Nat) {idx ci j a N : Nat} (hd : decode M.2.2.1 pc = .ok (.getfield idx, 3)) (hp : pc + 3 = pc') (hf : zfl M.1 idx ci j) (hc : ci < 100) (ht : zft ci j = 1) (hy : zly a = some (ci, N)) (kk : zw l d M pc' L (.long (zL (σ a (j : Int))) :: st) σ Q) : zw l d M pc L (.ref a :: st) σ Q :=
  zw_get pc' hd hp hf hc hy (fun G => by simp [zfv, ht, ztr]) kk
theorem zw_getr (pc' a' : Nat) {idx ci j a N o : Nat} (hd : decode M.2.2.1 pc = .ok (.getfield idx, 3)) (hp : pc + 3 = pc') (hf : zfl M.1 idx ci j) (hc : ci < 100) (ht : zft ci j = o + 2) (ha : a + o = a') (hy : zly a = some (ci, N)) (kk : zw l d M pc' L (.ref a' :: st) σ Q) : zw l d M pc L (.ref a :: st) σ Q :=
  zw_get pc' hd hp hf hc hy (fun G => by subst ha; simp [zfv, ht, ztr]) kk
theorem zfv_up {G : zG} {f : Int → Int} {ci r j N : Nat} {x : Int} {v : Value} (hv : zfv G (zup f j x) ci r j = v) (hj : j < N) : (List.range N).map (fun i => zfv G (zup f (j : Int) x) ci r i) = ((List.range N).map (fun i => zfv G f ci r i)).set j v := by
  apply List.ext_getElem?
  intro i
  by_cases hi : i = j
  · subst hi
    rw [List.getElem?_set_self (by simpa using hj)]
    simp [hj, hv]
  · rw [List.getElem?_set_ne (Ne.symm hi)]
    have hne : ¬ (i : Int) = (j : Int) := by omega
    simp only [List.getElem?_map]
    rcases Nat.lt_or_ge i N with h | h
    · simp [h, zfv, zup, hne]
    · simp [Nat.not_lt.mpr h, h]
theorem zw_put (pc' : Nat) {idx ci j a N : Nat} {ty : FieldType} {v : Value} (x : Int) (hd : decode M.2.2.1 pc = .ok (.putfield idx, 3)) (hp : pc + 3 = pc') (hf : zfp M.1 idx ci j ty) (hc : ci < 100) (hy : zly a = some (ci, N)) (hv : ∀ G, zfv G (zup (σ a) j x) ci a j = ztr G v) (hn : ∀ G, narrow ty (ztr G v) = ztr G v) (hfit : ∀ G, fits ty (ztr G v) = true) (kk : zw l d M pc' L st (zwr σ a j x) Q) : zw l d M pc L (v :: .ref a :: st) σ Q := by
  subst hp; intro G p e R s m args below meth c cells slots Z hC H locs ls hP hS hl
  obtain ⟨⟨C, T, n⟩, hq, hj, hw, hfin, hpt⟩ := hf
  obtain ⟨hin, hcl, hnm, ty0, hty⟩ := zcls ci _ hq
  obtain ⟨q2, hq2, hN⟩ := zly_cls a (zly_300 hy) _ hy hc
  have e2 : q2 = (C, T, n) := Option.some.inj (hq2.symm.trans hq)
  subst e2
  dsimp only at hN hj hw hin hcl hfin hpt hnm hty
  subst hN
  have hx := zWs_get (G := G) (σ := σ) hy
  rw [zE_obj G _ _ hc] at hx
  refine va_put (C := C) (T := T) (N := N) (ref := C) hC.1 hC.2.1 hC.2.2.2.2.1 hin ty0 hty hnm hC.2.2.2.1 hC.2.2.2.2.2.1 hP (zWs_D G σ) hS (a - 1) hx hq j hj (hC.2.2.2.2.1 _ hw) (by rw [hcl j hj]; exact fun _ h => h) hfin (ty := ty) (v := ztr G v) hpt (hn G) (hfit G) (by simpa using hj) hd (fun H1 locs1 hP1 hD1 hS1 => ?_)
  rw [zWs_set hy (zup (σ a) j x) (by rw [zE_obj G _ _ hc, zfv_up (hv G) hj])] at hP1
  exact kk G p e R s m args below meth c cells slots Z hC H1 locs1 ls hP1 hS1 hl
theorem zw_puti (pc' : Nat) {idx ci j a N : Nat} {x : Int} (hd : decode M.2.2.1 pc = .ok (.putfield idx, 3)) (hp : pc + 3 = pc') (hf : zfp M.1 idx ci j .int) (hc : ci < 100) (ht : zft ci j = 0) (hy : zly a = some (ci, N)) (kk : zw l d M pc' L st (zwr σ a j x) Q) : zw l d M pc L (.int (zI x) :: .ref a :: st) σ Q :=
  zw_put pc' x hd hp hf hc hy (fun G => by simp [zfv, ht, ztr, zup]) (fun G => rfl) (fun G => rfl) kk
theorem zw_putz (pc' : Nat) {idx ci j a N : Nat} {x : Int} (hd : decode M.2.2.1 pc = .ok (.putfield idx, 3)) (hp : pc + 3 = pc') (hf : zfp M.1 idx ci j .boolean) (hc : ci < 100) (ht : zft ci j = 0) (hy : zly a = some (ci, N)) (hx : x = 0 ∨ x = 1) (kk : zw l d M pc' L st (zwr σ a j x) Q) : zw l d M pc L (.int (zI x) :: .ref a :: st) σ Q :=
  zw_put pc' x hd hp hf hc hy (fun G => by simp [zfv, ht, ztr, zup]) (fun G => by rcases hx with rfl | rfl <;> rfl) (fun G => by rcases hx with rfl | rfl <;> rfl) kk
theorem zw_putl (pc' : Nat) {idx ci j a N : Nat} {x : Int} (hd : decode M.2.2.1 pc = .ok (.putfield idx, 3)) (hp : pc + 3 = pc') (hf : zfp M.1 idx ci j .long) (hc : ci < 100) (ht : zft ci j = 1) (hy : zly a = some (ci, N)) (kk : zw l d M pc' L st (zwr σ a j x) Q) : zw l d M pc L (.long (zL x) :: .ref a :: st) σ Q :=
  zw_put pc' x hd hp hf hc hy (fun G => by simp [zfv, ht, ztr, zup]) (fun G => rfl) (fun G => rfl) kk
/-! ===== arrays ===== -/
theorem zly_n : ∀ r, r < 300 → ∀ kn, zly r = some kn → 100 ≤ kn.1 → kn.2 < 1000 := by
  intro r hr kn h hk
  have h2 := zlyc_ok r hr
  unfold zlyc at h2
  rw [h] at h2
  dsimp only at h2
  rw [if_neg (by omega)] at h2
  exact of_decide_eq_true h2
theorem zT_at (G : zG) : (zT G)[0]? = some (zGA G 100, .int) ∧ (zT G)[1]? = some (zGA G 101, .boolean) ∧ (zT G)[2]? = some (zGA G 102, .byte) ∧ (zT G)[3]? = some (zGA G 103, .object RX2) ∧ (zT G)[4]? = some (zGA G 104, .object RX0) := ⟨rfl, rfl, rfl, rfl, rfl⟩
theorem zI_at {f : Int → Int} {i : Int} {n : Nat} (h : 0 ≤ i) (h2 : i < n) (hn : n < 1000) : f ((zI i).toNatClampNeg : Int) = f i := by
  rw [zI_clamp h (by omega)]
  congr 1
  omega
theorem zw_iald (pc' : Nat) {a n : Nat} {i : Int} (hd : decode M.2.2.1 pc = .ok (.iaload, 1)) (hp : pc + 1 = pc') (hy : zly a = some (100, n)) (hi : 0 ≤ i ∧ i < n) (kk : zw l d M pc' L (.int (zI (σ a i)) :: st) σ Q) : zw l d M pc L (.int (zI i) :: .ref a :: st) σ Q := by
  subst hp; intro G p e R s m args below meth c cells slots Z hC H locs ls hP hS hl
  have hx := zWs_get (G := G) (σ := σ) hy
  rw [zE_int G _ _ (by decide) (by decide)] at hx
  have hn := zly_n a (zly_300 hy) _ hy (by first | decide | omega)
  exact va_iald hC.1 hC.2.1 hC.2.2.2.2.2.1 hP (a - 1) 0 hx (zT_at G).1 (zI_in hi.1 hi.2 (by omega)) hd (by rw [zI_at (f := σ a) hi.1 hi.2 hn]; exact kk G p e R s m args below meth c cells slots Z hC H locs ls hP hS hl)
theorem zw_bald (pc' : Nat) {a n : Nat} {i : Int} (hd : decode M.2.2.1 pc = .ok (.baload, 1)) (hp : pc + 1 = pc') (hy : zly a = some (102, n)) (hi : 0 ≤ i ∧ i < n) (kk : zw l d M pc' L (.int (zI (σ a i)) :: st) σ Q) : zw l d M pc L (.int (zI i) :: .ref a :: st) σ Q := by
  subst hp; intro G p e R s m args below meth c cells slots Z hC H locs ls hP hS hl
  have hx := zWs_get (G := G) (σ := σ) hy
  rw [zE_int G _ _ (by decide) (by decide)] at hx
  have hn := zly_n a (zly_300 hy) _ hy (by first | decide | omega)
  exact va_bald hC.1 hC.2.1 hC.2.2.2.2.2.1 hP (a - 1) 2 hx (zT_at G).2.2.1 (zI_in hi.1 hi.2 (by omega)) hd (by rw [zI_at (f := σ a) hi.1 hi.2 hn]; exact kk G p e R s m args below meth c cells slots Z hC H locs ls hP hS hl)
theorem zw_zald (pc' : Nat) {a n : Nat} {i : Int} (hd : decode M.2.2.1 pc = .ok (.baload, 1)) (hp : pc + 1 = pc') (hy : zly a = some (101, n)) (hi : 0 ≤ i ∧ i < n) (kk : zw l d M pc' L (.int (zI (σ a i)) :: st) σ Q) : zw l d M pc L (.int (zI i) :: .ref a :: st) σ Q := by
  subst hp; intro G p e R s m args below meth c cells slots Z hC H locs ls hP hS hl
  have hx := zWs_get (G := G) (σ := σ) hy
  rw [zE_int G _ _ (by decide) (by decide)] at hx
  have hn := zly_n a (zly_300 hy) _ hy (by first | decide | omega)
  exact va_zald hC.1 hC.2.1 hC.2.2.2.2.2.1 hP (a - 1) 1 hx (zT_at G).2.1 (zI_in hi.1 hi.2 (by omega)) hd (by rw [zI_at (f := σ a) hi.1 hi.2 hn]; exact kk G p e R s m args below meth c cells slots Z hC H locs ls hP hS hl)
theorem zw_aald (pc' : Nat) (a' : Nat) {a k n : Nat} {i : Int} (hd : decode M.2.2.1 pc = .ok (.aaload, 1)) (hp : pc + 1 = pc') (hy : zly a = some (k, n)) (hk : k = 103 ∨ k = 104) (hi : 0 ≤ i ∧ i < n) (ha : σ a i = (a' : Int)) (kk : zw l d M pc' L (.ref a' :: st) σ Q) : zw l d M pc L (.int (zI i) :: .ref a :: st) σ Q := by
  subst hp; intro G p e R s m args below meth c cells slots Z hC H locs ls hP hS hl
  have hx := zWs_get (G := G) (σ := σ) hy
  rw [zE_ref G _ _ (by rcases hk with rfl | rfl <;> decide)] at hx
  have hn := zly_n a (zly_300 hy) _ hy (by first | decide | omega)
  have e1 : some (zad G (σ a ((zI i).toNatClampNeg : Int)).toNat) = some (zad G a') := by rw [zI_at (f := σ a) hi.1 hi.2 hn, ha]; rfl
  rcases hk with rfl | rfl
  · exact va_aldq hC.1 hC.2.1 hC.2.2.2.2.2.1 hP (a - 1) 3 hx (zT_at G).2.2.2.1 (zI_in hi.1 hi.2 (by omega)) hd (by rw [e1]; exact kk G p e R s m args below meth c cells slots Z hC H locs ls hP hS hl)
  · exact va_aldq hC.1 hC.2.1 hC.2.2.2.2.2.1 hP (a - 1) 4 hx (zT_at G).2.2.2.2 (zI_in hi.1 hi.2 (by omega)) hd (by rw [e1]; exact kk G p e R s m args below meth c cells slots Z hC H locs ls hP hS hl)
theorem zup_fn {f : Int → Int} {i x : Int} {n : Nat} (h : 0 ≤ i) (h2 : i < n) (hn : n < 1000) : (fun j : Nat => zI (zup f i x (j : Int))) = upd (fun j : Nat => zI (f (j : Int))) (zI i).toNatClampNeg (zI x) := by
  funext j
  rw [zI_clamp h (by omega)]
  by_cases hj : j = i.toNat
  · subst hj
    simp [zup, upd, Int.toNat_of_nonneg h]
  · have : ¬ (j : Int) = i := by omega
    simp [zup, upd, hj, this]
theorem zw_iast (pc' : Nat) {a n : Nat} {i x : Int} (hd : decode M.2.2.1 pc = .ok (.iastore, 1)) (hp : pc + 1 = pc') (hy : zly a = some (100, n)) (hi : 0 ≤ i ∧ i < n) (kk : zw l d M pc' L st (zwr σ a i x) Q) : zw l d M pc L (.int (zI x) :: .int (zI i) :: .ref a :: st) σ Q := by
  subst hp; intro G p e R s m args below meth c cells slots Z hC H locs ls hP hS hl
  have hx := zWs_get (G := G) (σ := σ) hy
  rw [zE_int G _ _ (by decide) (by decide)] at hx
  have hn := zly_n a (zly_300 hy) _ hy (by first | decide | omega)
  refine va_iast hC.1 hC.2.1 hC.2.2.2.2.2.1 hP (zWs_D G σ) hS (a - 1) 0 hx (zT_at G).1 (zI_in hi.1 hi.2 (by omega)) hd (fun H1 locs1 hP1 hD1 hS1 => ?_)
  rw [zWs_set hy (zup (σ a) i x) (by rw [zE_int G _ _ (by decide) (by decide), zup_fn hi.1 hi.2 hn])] at hP1
  exact kk G p e R s m args below meth c cells slots Z hC H1 locs1 ls hP1 hS1 hl
theorem zw_bast (pc' : Nat) {a n : Nat} {i x : Int} (hd : decode M.2.2.1 pc = .ok (.bastore, 1)) (hp : pc + 1 = pc') (hy : zly a = some (102, n)) (hi : 0 ≤ i ∧ i < n) (hv : (zI x).toInt8.toInt32 = zI x) (kk : zw l d M pc' L st (zwr σ a i x) Q) : zw l d M pc L (.int (zI x) :: .int (zI i) :: .ref a :: st) σ Q := by
  subst hp; intro G p e R s m args below meth c cells slots Z hC H locs ls hP hS hl
  have hx := zWs_get (G := G) (σ := σ) hy
  rw [zE_int G _ _ (by decide) (by decide)] at hx
  have hn := zly_n a (zly_300 hy) _ hy (by first | decide | omega)
  refine va_bast hC.1 hC.2.1 hC.2.2.2.2.2.1 hP (zWs_D G σ) hS (a - 1) 2 hx (zT_at G).2.2.1 (zI_in hi.1 hi.2 (by omega)) hd (fun H1 locs1 hP1 hD1 hS1 => ?_)
  rw [vp_nar_byte, hv] at hP1
  rw [zWs_set hy (zup (σ a) i x) (by rw [zE_int G _ _ (by decide) (by decide), zup_fn hi.1 hi.2 hn])] at hP1
  exact kk G p e R s m args below meth c cells slots Z hC H1 locs1 ls hP1 hS1 hl
end ZH
end
section
section ZY
variable {l : Launch} {d : Nat} {M : zMth} {pc : Nat} {L : List (Option Value)} {st : List Value} {σ : zMem} {Q : Option Value → zMem → Prop} {k : Nat}
theorem zw_zast (pc' : Nat) {a n : Nat} {i x : Int} (hd : decode M.2.2.1 pc = .ok (.bastore, 1)) (hp : pc + 1 = pc') (hy : zly a = some (101, n)) (hi : 0 ≤ i ∧ i < n) (hx : x = 0 ∨ x = 1) (kk : zw l d M pc' L st (zwr σ a i x) Q) : zw l d M pc L (.int (zI x) :: .int (zI i) :: .ref a :: st) σ Q := by
  subst hp; intro G p e R s m args below meth c cells slots Z hC H locs ls hP hS hl
  have hx0 := zWs_get (G := G) (σ := σ) hy
  rw [zE_int G _ _ (by decide) (by decide)] at hx0
  have hn := zly_n a (zly_300 hy) _ hy (by omega)
  refine va_zast hC.1 hC.2.1 hC.2.2.2.2.2.1 hP (zWs_D G σ) hS (a - 1) 1 hx0 (zT_at G).2.1 (zI_in hi.1 hi.2 (by omega)) hd (fun H1 locs1 hP1 hD1 hS1 => ?_)
  rw [show vp_nar .boolean (zI x) = zI x by rcases hx with rfl | rfl <;> rfl] at hP1
  rw [zWs_set hy (zup (σ a) i x) (by rw [zE_int G _ _ (by decide) (by decide), zup_fn hi.1 hi.2 hn])] at hP1
  exact kk G p e R s m args below meth c cells slots Z hC H1 locs1 ls hP1 hS1 hl
theorem zup_fr {G : zG} {f : Int → Int} {i : Int} {v n : Nat} (h : 0 ≤ i) (h2 : i < n) (hn : n < 1000) : (fun j : Nat => some (zad G (zup f i (v : Int) (j : Int)).toNat)) = va_up (fun j : Nat => some (zad G (f (j : Int)).toNat)) (zI i).toNatClampNeg (some (zad G v)) := by
  funext j
  rw [zI_clamp h (by omega)]
  by_cases hj : j = i.toNat
  · subst hj
    simp [zup, va_up, Int.toNat_of_nonneg h]
  · have : ¬ (j : Int) = i := by omega
    simp [zup, va_up, hj, this]
theorem zw_aast (pc' : Nat) {a n v : Nat} {i : Int} (hd : decode M.2.2.1 pc = .ok (.aastore, 1)) (hp : pc + 1 = pc') (hy : zly a = some (103, n)) (hi : 0 ≤ i ∧ i < n) (hv : zly v = some (2, 4)) (kk : zw l d M pc' L st (zwr σ a i v) Q) : zw l d M pc L (.ref v :: .int (zI i) :: .ref a :: st) σ Q := by
  subst hp; intro G p e R s m args below meth c cells slots Z hC H locs ls hP hS hl
  have hx0 := zWs_get (G := G) (σ := σ) hy
  have hx1 := zWs_get (G := G) (σ := σ) hv
  rw [zE_ref G _ _ (by decide)] at hx0
  rw [zE_obj G _ _ (by decide)] at hx1
  have hn := zly_n a (zly_300 hy) _ hy (by omega)
  refine va_astq (r := (RX2, TX2, 4)) hC.1 hC.2.1 hC.2.2.2.2.2.1 hP (zWs_D G σ) hS (a - 1) 3 (v - 1) 2 hx0 (zT_at G).2.2.2.1 hx1 rfl (zI_in hi.1 hi.2 (by omega)) hd (fun H1 locs1 hP1 hD1 hS1 => ?_)
  rw [zWs_set hy (zup (σ a) i v) (by rw [zE_ref G _ _ (by decide), zup_fr hi.1 hi.2 hn])] at hP1
  exact kk G p e R s m args below meth c cells slots Z hC H1 locs1 ls hP1 hS1 hl
theorem zw_alen (pc' : Nat) {a n : Nat} (hd : decode M.2.2.1 pc = .ok (.arraylength, 1)) (hp : pc + 1 = pc') (hy : zly a = some (100, n)) (kk : zw l d M pc' L (.int (zI (n : Int)) :: st) σ Q) : zw l d M pc L (.ref a :: st) σ Q := by
  subst hp; intro G p e R s m args below meth c cells slots Z hC H locs ls hP hS hl
  have hx0 := zWs_get (G := G) (σ := σ) hy
  rw [zE_int G _ _ (by decide) (by decide)] at hx0
  exact va_alen hC.1 hC.2.1 hC.2.2.2.2.2.1 hP (a - 1) 0 hx0 (zT_at G).1 (zI_nat n).symm hd (kk G p e R s m args below meth c cells slots Z hC H locs ls hP hS hl)
/-- System.arraycopy from the beginnings -/
def zcw (own : String) (idx : Nat) : Prop := Cond.methodLink own idx arraycopyName ∈ ztbl ∧ Cond.native arraycopyName ∈ ztbl ∧ Cond.static arraycopyName ∈ ztbl ∧ Cond.initialized "java/lang/System" ∈ ztbl
def zcp (f g : Int → Int) (n : Int) : Int → Int := fun j => if 0 ≤ j ∧ j < n then f j else g j
theorem zw_copy (pc' : Nat) {idx a0 a n0 n1 : Nat} {n : Int} (hd : decode M.2.2.1 pc = .ok (.invokestatic idx, 3)) (hp : pc + 3 = pc') (hw : zcw M.1 idx) (hy0 : zly a0 = some (100, n0)) (hy : zly a = some (100, n1)) (hn : 0 ≤ n ∧ n ≤ n0 ∧ n ≤ n1) (hst : st = []) (hdd : 1 ≤ d) (kk : zw l d M pc' L st (zwa σ a (zcp (σ a0) (σ a) n)) Q) : zw l d M pc L (.int (zI n) :: .int (zI 0) :: .ref a :: .int (zI 0) :: .ref a0 :: st) σ Q := by
  subst hp; subst hst; intro G p e R s m args below meth c cells slots Z hC H locs ls hP hS hl
  have hx0 := zWs_get (G := G) (σ := σ) hy0
  have hx1 := zWs_get (G := G) (σ := σ) hy
  rw [zE_int G _ _ (by decide) (by decide)] at hx0 hx1
  have h0 := zly_n a0 (zly_300 hy0) _ hy0 (by omega)
  have h1 := zly_n a (zly_300 hy) _ hy (by omega)
  dsimp only at h0 h1
  have e0 : (zI 0).toNatClampNeg = 0 := rfl
  have en : (zI n).toNatClampNeg = n.toNat := zI_clamp hn.1 (by omega)
  have hts := hC.2.2.2.2.1
  obtain ⟨w1, w2, w3, w4⟩ := hw
  have hR := hC.2.2.2.2.2.2.2.2.2.1
  refine va_copyi (ty := .int) hC.1 hC.2.1 (hC.2.2.1.trans hl.1.symm) hC.2.2.2.1 (hts _ w1) (hts _ w2) (hts _ w3) (hts _ w4) hC.2.2.2.2.2.1 hP (zWs_D G σ) hS (a0 - 1) (a - 1) 0 0 hx0 hx1 (zT_at G).1 (zT_at G).1 rfl (by decide) (by decide) ?_ (by rw [e0, en]; omega) (by rw [e0, en]; omega) (fun _ _ => rfl) (by omega) ?_ hd (fun H1 locs1 hP1 hD1 hS1 => ?_)
  · rw [show (0 : Int32) = zI 0 from rfl, zI_lt (by omega) (by omega) (by omega) (by omega)]; omega
  · refine Nat.le_trans (Nat.le_of_ble_eq_true rfl : (List.map (fun v : Value => v.category) (List.map (ztr G) [])).sum + (nativeFrameWords "java/lang/System" "arraycopy" 5 + 11) ≤ 64) ?_
    omega
  · rw [zWs_set hy (zcp (σ a0) (σ a) n) (by
      rw [zE_int G _ _ (by decide) (by decide), e0, en]
      congr 4
      funext j
      simp only [zcp, va_cpy]
      by_cases hj : j < n.toNat
      · rw [if_pos (by omega), if_pos (by omega)]
        simp
      · rw [if_neg (by omega), if_neg (by omega)])] at hP1
    exact kk G p e R s m args below meth c cells slots Z hC H1 locs1 ls hP1 hS1 hl
/-! ===== returns ===== -/
theorem zw_ret {v : Option Value} (hr : zrt M pc v) (hst : st = v.toList) (hq : Q v σ) : zw l d M pc L st σ Q := by
  subst hst; intro G p e R s m args below meth c cells slots Z hC H locs ls hP hS hl
  have := hC.2.2.2.2.2.2.2.2.2.2 v σ H locs ls pc hr hq hP hS
  cases v <;> exact this
theorem zw_iret {x : Int} (hd : decode M.2.2.1 pc = .ok (.ireturn, 1)) (hr : M.2.2.2.2 = some .int) (hq : Q (some (.int (zI x))) σ) : zw l d M pc L [.int (zI x)] σ Q := zw_ret (v := some (.int (zI x))) ⟨.int, hr, rfl, hd⟩ rfl hq
theorem zw_zret {x : Int} (hd : decode M.2.2.1 pc = .ok (.ireturn, 1)) (hr : M.2.2.2.2 = some .boolean) (hx : x = 0 ∨ x = 1) (hq : Q (some (.int (zI x))) σ) : zw l d M pc L [.int (zI x)] σ Q := zw_ret (v := some (.int (zI x))) ⟨.boolean, hr, by rcases hx with rfl | rfl <;> rfl, hd⟩ rfl hq
theorem zw_lret {x : Int} (hd : decode M.2.2.1 pc = .ok (.lreturn, 1)) (hr : M.2.2.2.2 = some .long) (hq : Q (some (.long (zL x))) σ) : zw l d M pc L [.long (zL x)] σ Q := zw_ret (v := some (.long (zL x))) ⟨hr, hd⟩ rfl hq
theorem zw_vret (hd : decode M.2.2.1 pc = .ok (.return_, 1)) (hr : M.2.2.2.2 = none) (hq : Q none σ) : zw l d M pc L [] σ Q := zw_ret (v := none) ⟨hr, hd⟩ rfl hq
/-! ===== a contract out of the method's run ===== -/
theorem zsl_spec (G : zG) : ∀ (vs : List Value) (n i : Nat) (v : Value), (zsl vs)[i]? = some (some v) → (n + i, ztr G v) ∈ lv_args n (vs.map (ztr G))
  | [], n, i, v, h => by simp [zsl] at h
  | w :: vs, n, i, v, h => by
    rw [List.map_cons, lv_args, ztr_cat]
    by_cases hc : w.category = 2
    · have e : zsl (w :: vs) = some w :: none :: zsl vs := by cases w <;> simp_all [zsl, Value.category]
      rw [e] at h
      rw [if_pos hc]
      match i, h with
      | 0, h => simp at h; subst h; exact List.mem_cons_self
      | 1, h => simp at h
      | i + 2, h =>
        have := zsl_spec G vs (n + 2) i v (by simpa using h)
        rw [show n + (i + 2) = n + 2 + i by omega]
        exact List.mem_cons_of_mem _ this
    · have e : zsl (w :: vs) = some w :: zsl vs := by cases w <;> simp_all [zsl, Value.category]
      rw [e] at h
      rw [if_neg hc]
      match i, h with
      | 0, h => simp at h; subst h; exact List.mem_cons_self
      | i + 1, h =>
        have := zsl_spec G vs (n + 1) i v (by simpa using h)
        rw [show n + (i + 1) = n + 1 + i by omega]
        exact List.mem_cons_of_mem _ this
theorem zsl_len (G : zG) : ∀ vs : List Value, (lg_sl (vs.map (ztr G))).length = (zsl vs).length
  | [] => rfl
  | w :: vs => by
    have ih := zsl_len G vs
    unfold lg_sl at ih ⊢
    rw [List.map_cons, List.flatMap_cons, List.length_append, ih, ztr_cat]
    by_cases hc : w.category = 2
    · have e : zsl (w :: vs) = some w :: none :: zsl vs := by cases w <;> simp_all [zsl, Value.category]
      rw [e, if_pos hc]; simp; omega
    · have e : zsl (w :: vs) = some w :: zsl vs := by cases w <;> simp_all [zsl, Value.category]
      rw [e, if_neg hc]; simp; omega
theorem zen_lv (G : zG) {vs : List Value} {n : Nat} (h : (zsl vs).length ≤ n) : zlv G ((lg_sl (vs.map (ztr G)) ++ List.replicate (n - (lg_sl (vs.map (ztr G))).length) Slot.unset).toArray) n (zen n vs) := by
  have h0 := lv_entry (vs.map (ztr G)) (n := n) (by rw [zsl_len]; exact h)
  refine ⟨h0.1, h0.2.1, fun i v hv => ?_⟩
  unfold zen at hv
  by_cases hi : i < (zsl vs).length
  · rw [List.getElem?_append_left hi] at hv
    have := zsl_spec G vs 0 i v hv
    rw [Nat.zero_add] at this
    exact h0.2.2 _ this
  · rw [List.getElem?_append_right (by omega)] at hv
    simp [List.getElem?_replicate] at hv
/-- the facts of a method: a plain class name, its words -/
def zMok (M : zMth) : Prop := plainName M.2.1.cls = true ∧ M.2.1.cls = M.1 ∧ Cond.code M.2.1 M.2.2.1 M.2.2.2.1 M.2.2.2.2 ∈ ztbl ∧ M.2.2.2.1 ≤ 40
theorem zSp_of {args : List Value} (hM : zMok M) (hlen : (zsl args).length ≤ M.2.2.2.1) (h : zw l d M 0 (zen M.2.2.2.1 args) [] σ Q) : zSp l d M args σ Q := by
  intro G
  refine Met.ofW (cc := M.2.2.1) (maxL := M.2.2.2.1) (ret := M.2.2.2.2) hM.1 rfl ?_
  intro p e s m args0 below meth c s₁ B hml hv
  obtain ⟨rfl, hP, hK, hStr, hScr, hOld⟩ := hv
  have hts0 := atoms_spec (ws := Cond.code M.2.1 M.2.2.1 M.2.2.2.1 M.2.2.2.2 :: ztbl) B.pre
  have hown : s.vm.findClass M.1 = some m.cls := by rw [← hM.2.1]; exact findClass_of_methodNamed B.named
  rw [lg_entry_eq]
  refine h G p e _ s m _ below meth c 0 0 _ ⟨B.exec, B.bytes, hml, hown, fun w hw => hts0 w (List.mem_cons_of_mem _ hw), hK, hStr, hScr, hOld, ⟨Nat.le_refl _, Nat.le_refl _, Nat.le_refl _, Nat.le_refl _⟩, ?_⟩ s.heap [] _ hP va_S.rf (zen_lv G hlen)
  intro r σ' H locs ls pc hr hQ hP' hS'
  match r, hr with
  | none, hr => exact W.vret B.exec B.bytes (B.returns.trans hr.1) (fun t ht hW => ⟨⟨none, σ', rfl, hQ, by rw [ht]; exact hP'⟩, hS'.F ht⟩) hS'.2.2 hr.2 B.notSynchronized
  | some (.int v), hr =>
    obtain ⟨ty, h1, h2, h3⟩ := hr
    exact W.zret B.exec B.bytes (B.returns.trans h1) h2 (fun t ht hW => ⟨⟨some (.int v), σ', rfl, hQ, by rw [ht]; exact hP'⟩, hS'.F ht⟩) hS'.2.2 h3 B.notSynchronized
  | some (.long v), hr => exact W.lret B.exec B.bytes (B.returns.trans hr.1) (fun t ht hW => ⟨⟨some (.long v), σ', rfl, hQ, by rw [ht]; exact hP'⟩, hS'.F ht⟩) hS'.2.2 hr.2 B.notSynchronized
end ZY
/-! ===== calls ===== -/
theorem zB.calling {G : zG} {σ : zMem} {U : State} {g : JFrame} {mk : MethodId} {a : Array Value} (h : zB G σ U) : zB G σ (U.calling g mk a) := by
  obtain ⟨hP, hK, hStr, hScr, hOld⟩ := h
  refine ⟨hP, va_K.moved (u := U) (U := U.calling g mk a) (Vm.Alike.refl U.vm) hK, ⟨⟨fun i hi => vk_R.same (u := U) rfl (hStr.1.1 i hi), hStr.1.2.same (s := U) rfl⟩, hStr.2.moved (u := U) (U := U.calling g mk a) (Vm.Alike.refl U.vm)⟩, hScr.moved (s := U) (U := U.calling g mk a) (Vm.Alike.refl U.vm), hOld⟩
theorem zPc_blind {G : zG} {σ : zMem} {av : List Value} : FrameBlind (va_Pc av (zB G σ)) := fun _ _ _ _ h => ⟨h.1, h.2.calling⟩
section ZC
variable {l : Launch} {d : Nat} {M : zMth} {pc : Nat} {L : List (Option Value)} {st : List Value} {σ : zMem} {Q : Option Value → zMem → Prop} {k : Nat}
/-- the facts of a method that is called -/
def zcm (M' : zMth) (n : Nat) : Prop := Cond.initialized M'.2.1.cls ∈ ztbl ∧ Cond.code M'.2.1 M'.2.2.1 M'.2.2.2.1 M'.2.2.2.2 ∈ ztbl ∧ M'.2.1.cls ≠ "java/lang/invoke/MethodHandle" ∧ M'.2.1.cls ≠ "java/lang/invoke/VarHandle" ∧ (parseMethodDescriptor M'.2.1.desc).map (fun d => d.parameters.length) = some n ∧ M'.2.2.2.1 ≤ 40
/-- a call by invokevirtual of own's pool entry idx -/
def zcv (own : String) (idx : Nat) (M' : zMth) : Prop := Cond.methodLink own idx M'.2.1 ∈ ztbl ∧ Cond.instanceMethod M'.2.1 ∈ ztbl ∧ Cond.selects M'.2.1.cls M'.2.1 M'.2.1 ∈ ztbl
def zcs (own : String) (idx : Nat) (M' : zMth) : Prop := Cond.methodLink own idx M'.2.1 ∈ ztbl ∧ Cond.static M'.2.1 ∈ ztbl
/-- by invokestatic of a nest mate's private one -/
def zcn (own : String) (idx : Nat) (M' : zMth) : Prop := (own, idx, M'.2.1) ∈ zNl ∧ Cond.static M'.2.1 ∈ ztbl
theorem zws_ok {M' : zMth} {n : Nat} (h : zcm M' n) : ∀ w ∈ Cond.code M'.2.1 M'.2.2.1 M'.2.2.2.1 M'.2.2.2.2 :: ztbl, w ∈ ztbl := fun w hw => (List.mem_cons.mp hw).elim (fun e => by rw [e]; exact h.2.1) id
theorem zpre {G : zG} {s U : State} {H : Heap} {locs : List Loc} {av : List Value} (hP : va_P (zGD G) vwCl (zWs G σ) H) (hK : va_K (zGD G) vwCl (zT G) s) (hStr : zStr G s) (hScr : zScr G s) (hOld : zOld G s) (hS : va_S (zA G) s.heap H locs) (hU : U.heap = H) (hW : s.WarmedH U.vm) : va_Pc av (zB G σ) av.toArray U := by
  refine ⟨rfl, by rw [hU]; exact hP, hK.moved hW.alike, hStr.warm hW, hScr.moved hW.alike, ?_, ?_, hOld.2.2⟩
  · rw [hU]; exact Nat.le_trans hOld.1 hS.1
  · intro q hq
    rw [hU, hS.2.1 q (Nat.lt_of_lt_of_le hq hOld.1) (fun h => absurd hq (Nat.not_lt.mpr h))]
    exact hOld.2.1 q hq
theorem zgo {G : zG} {p : Program} {e : Env} {R : Room} {s : State} {m : MethodId} {args : Array Value} {below : List Frame} {meth : Method} {c : Code} {cells slots : Nat} {Z : State → Prop} {H : Heap} {locs : List Loc} {ls : Array Slot} {st0 rest : List Value} {Q' : Option Value → zMem → Prop} {av : Array Value} (hC : zC l d M Q G p e R s m args below meth c cells slots Z) (hS : va_S (zA G) s.heap H locs) (hl : zlv G ls M.2.2.2.1 L)
    (hr : va_Run p l e R s m args below meth c H locs cells slots 0 0 (F0 m pc ls st0) (rest.map (ztr G)) (zQ G Q' av) (zA G)) (kk : ∀ r σ', Q' r σ' → zw l d M (pc + 3) L (r.toList ++ rest) σ' Q) : W p l e R s m args below meth c H locs cells slots Z (F0 m pc ls st0) := by
  intro T hT X
  obtain ⟨v, st₀, t, T', Lc, h0, X', hL, e1, e2, ⟨⟨r, σ', hv, hq, hP'⟩, hz, hk⟩, stp⟩ := hr T hT X
  cases hv
  rw [h0] at hz hk
  have hS' : va_S (zA G) s.heap T'.heap (locs ++ Lc) := ⟨Nat.le_trans hS.1 (by rw [e1]; exact hz), fun q h1 h2 => by rw [e1, hk q (Nat.lt_of_lt_of_le h1 hS.1) h2]; exact hS.2.1 q h1 h2, fun q hq => (List.mem_append.mp hq).elim (hS.2.2 q) (hL q)⟩
  have hP'' : va_P (zGD G) vwCl (zWs G σ') T'.heap := by rw [e1]; exact hP'
  obtain ⟨t2, a1, b1⟩ := kk r σ' hq G p e R s m args below meth c cells slots Z hC T'.heap (locs ++ Lc) ls hP'' hS' hl T' rfl X'
  refine ⟨t2, stp t2 ?_, b1⟩
  have e3 : (r.toList ++ rest).map (ztr G) = (r.map (ztr G)).toList ++ rest.map (ztr G) := by cases r <;> simp
  rw [e3] at a1
  exact a1
theorem zroom {R : Room} {d d' : Nat} {maxL : Nat} (h1 : d ≤ R.frames) (h2 : 64 * d ≤ R.locals) (hd : d' < d) (hm : maxL ≤ 40) : (zrm d').frames + 1 ≤ R.frames ∧ 8 + (maxL + 11) + (zrm d').locals ≤ R.locals := by
  constructor
  · show d' + 1 ≤ R.frames
    omega
  · show 8 + (maxL + 11) + 64 * d' ≤ R.locals
    omega
theorem zw_callV (pc' : Nat) (As : List Value) (rest : List Value) {idx a ci N n d' : Nat} {M' : zMth} {Q' : Option Value → zMem → Prop} (hd : decode M.2.2.1 pc = .ok (.invokevirtual idx, 3)) (hp : pc + 3 = pc') (hc : zcv M.1 idx M') (hm : zcm M' n) (hy : zly a = some (ci, N)) (hci : ∃ q, vwCl[ci]? = some q ∧ q.1 = M'.2.1.cls) (hc2 : ci < 100) (hsp : zSp l d' M' (.ref a :: As) σ Q') (hdd : d' < d) (hn : As.length = n) (hst : st = As.reverse ++ .ref a :: rest) (hcat : (rest.map (fun v => v.category)).sum ≤ 8) (kk : ∀ r σ', Q' r σ' → zw l d M pc' L (r.toList ++ rest) σ' Q) : zw l d M pc L st σ Q := by
  subst hp; subst hst; intro G p e R s m args below meth c cells slots Z hC H locs ls hP hS hl
  obtain ⟨hx, hb, hml, hown, hts, hK, hStr, hScr, hOld, hR, hret⟩ := id hC
  obtain ⟨q, hq, hqc⟩ := hci
  obtain ⟨m1, m2, m3, m4, m5, m6⟩ := id hm
  have hx0 := zWs_get (G := G) (σ := σ) hy
  rw [zE_obj G _ _ hc2] at hx0
  have hrec := va_recv hK hP hq hx0
  rw [hqc] at hrec
  refine zgo hC hS hl (rest := rest) (va_runV (C := M'.2.1.cls) (b := zad G a) (As := As.map (ztr G)) (rest := rest.map (ztr G)) (n := n) (rm := zrm d') ⟨hx, hb, hml, hown, hts⟩ (hsp G) (cwV n hts (zgood (fun w hw => ?_)) rfl rfl rfl ⟨rfl, m3, m4, m5⟩ (zroom hR.1 hR.2.1 hdd m6)) ⟨zPc_blind, hrec, fun U hU hW => zpre hP hK hStr hScr hOld hS hU hW⟩ rfl (by simpa using hn) hl.1 (by simp [ztr]) (lv_room (by simpa [Function.comp_def, ztr_cat] using hcat)) hd ⟨by simpa using hR.2.2.1, by simpa using hR.2.2.2⟩) kk
  rcases List.mem_append.mp hw with hw | hw
  · simp only [List.mem_cons, List.not_mem_nil, or_false] at hw
    rcases hw with rfl | rfl | rfl | rfl
    · exact hc.1
    · exact hc.2.1
    · exact hc.2.2
    · exact m1
  · exact zws_ok hm w hw
theorem zw_callS (pc' : Nat) (As : List Value) (rest : List Value) {idx n d' : Nat} {M' : zMth} {Q' : Option Value → zMem → Prop} (hd : decode M.2.2.1 pc = .ok (.invokestatic idx, 3)) (hp : pc + 3 = pc') (hc : zcs M.1 idx M') (hm : zcm M' n) (hsp : zSp l d' M' As σ Q') (hdd : d' < d) (hn : As.length = n) (hst : st = As.reverse ++ rest) (hcat : (rest.map (fun v => v.category)).sum ≤ 8) (kk : ∀ r σ', Q' r σ' → zw l d M pc' L (r.toList ++ rest) σ' Q) : zw l d M pc L st σ Q := by
  subst hp; subst hst; intro G p e R s m args below meth c cells slots Z hC H locs ls hP hS hl
  obtain ⟨hx, hb, hml, hown, hts, hK, hStr, hScr, hOld, hR, hret⟩ := id hC
  obtain ⟨m1, m2, m3, m4, m5, m6⟩ := id hm
  refine zgo hC hS hl (rest := rest) (va_runS (As := As.map (ztr G)) (rest := rest.map (ztr G)) (n := n) (rm := zrm d') ⟨hx, hb, hml, hown, hts⟩ (hsp G) (va_cwS n hts (zgood (fun w hw => ?_)) rfl rfl rfl ⟨m3, m4, m5⟩ (zroom hR.1 hR.2.1 hdd m6)) ⟨zPc_blind, fun U hU hW => zpre hP hK hStr hScr hOld hS hU hW⟩ rfl (by simpa using hn) hl.1 (by simp) (lv_room (by simpa [Function.comp_def, ztr_cat] using hcat)) hd ⟨by simpa using hR.2.2.1, by simpa using hR.2.2.2⟩) kk
  rcases List.mem_append.mp hw with hw | hw
  · simp only [List.mem_cons, List.not_mem_nil, or_false] at hw
    rcases hw with rfl | rfl | rfl
    · exact hc.1
    · exact hc.2
    · exact m1
  · exact zws_ok hm w hw
theorem zw_callN (pc' : Nat) (As : List Value) (rest : List Value) {idx n d' : Nat} {M' : zMth} {Q' : Option Value → zMem → Prop} (hd : decode M.2.2.1 pc = .ok (.invokestatic idx, 3)) (hp : pc + 3 = pc') (hc : zcn M.1 idx M') (hm : zcm M' n) (hsp : zSp l d' M' As σ Q') (hdd : d' < d) (hn : As.length = n) (hst : st = As.reverse ++ rest) (hcat : (rest.map (fun v => v.category)).sum ≤ 8) (kk : ∀ r σ', Q' r σ' → zw l d M pc' L (r.toList ++ rest) σ' Q) : zw l d M pc L st σ Q := by
  subst hp; subst hst; intro G p e R s m args below meth c cells slots Z hC H locs ls hP hS hl
  obtain ⟨hx, hb, hml, hown, hts, hK, hStr, hScr, hOld, hR, hret⟩ := id hC
  obtain ⟨m1, m2, m3, m4, m5, m6⟩ := id hm
  refine zgo hC hS hl (rest := rest) (va_runSN (host := RX5) (As := As.map (ztr G)) (rest := rest.map (ztr G)) (n := n) (rm := zrm d') ⟨hx, hb, hml, hown, hts⟩ (hsp G) ⟨va_cnB n hts (zgood (zws_ok hm)) rfl rfl rfl (hStr.1.2 _ hc.1) (hts _ m1) ⟨m3, m4, m5⟩ (zroom hR.1 hR.2.1 hdd m6), hts _ hc.2, trivial⟩ ⟨zPc_blind, fun U hU hW => zpre hP hK hStr hScr hOld hS hU hW⟩ rfl (by simpa using hn) hl.1 (by simp) (lv_room (by simpa [Function.comp_def, ztr_cat] using hcat)) hd ⟨by simpa using hR.2.2.1, by simpa using hR.2.2.2⟩) kk
end ZC
end
