-- ===== PART A: goes FIRST, ahead of the names: the tables' words, and 'selects' of the private methods out of them =====
/-- a private method of a class that the tables say can be made, by its rows of tables_1 -/
def lw_okq (q : MethodName × Nat) : Prop := (q.1.cls ≠ "java/lang/invoke/MethodHandle" ∧ q.1.cls ≠ "java/lang/invoke/VarHandle") ∧ Cond.instantiable q.1.cls q.2 ∈ tables_1 ∧ Cond.privateMethod q.1 ∈ tables_1 ∧ Cond.instanceMethod q.1 ∈ tables_1
theorem lw_p0 : lw_okq (⟨"SeatScene", "refuse", "(I)I"⟩, 14) := ⟨⟨by decide +kernel, by decide +kernel⟩, List.mem_of_getElem? (i := 16) (by decide +kernel), List.mem_of_getElem? (i := 280) (by decide +kernel), List.mem_of_getElem? (i := 281) (by decide +kernel)⟩
theorem lw_p1 : lw_okq (⟨"SeatScene$Text", "step", "()V"⟩, 8) := ⟨⟨by decide +kernel, by decide +kernel⟩, List.mem_of_getElem? (i := 146) (by decide +kernel), List.mem_of_getElem? (i := 316) (by decide +kernel), List.mem_of_getElem? (i := 317) (by decide +kernel)⟩
theorem lw_p2 : lw_okq (⟨"SeatScene$Text", "isLetter", "(I)Z"⟩, 8) := ⟨⟨by decide +kernel, by decide +kernel⟩, List.mem_of_getElem? (i := 146) (by decide +kernel), List.mem_of_getElem? (i := 320) (by decide +kernel), List.mem_of_getElem? (i := 321) (by decide +kernel)⟩
theorem lw_p3 : lw_okq (⟨"SeatScene$Text", "stepWord", "()V"⟩, 8) := ⟨⟨by decide +kernel, by decide +kernel⟩, List.mem_of_getElem? (i := 146) (by decide +kernel), List.mem_of_getElem? (i := 324) (by decide +kernel), List.mem_of_getElem? (i := 325) (by decide +kernel)⟩
theorem lw_p4 : lw_okq (⟨"SeatScene$Text", "isFigure", "(I)Z"⟩, 8) := ⟨⟨by decide +kernel, by decide +kernel⟩, List.mem_of_getElem? (i := 146) (by decide +kernel), List.mem_of_getElem? (i := 328) (by decide +kernel), List.mem_of_getElem? (i := 329) (by decide +kernel)⟩
theorem lw_p5 : lw_okq (⟨"SeatScene$Text", "stepNumber", "()V"⟩, 8) := ⟨⟨by decide +kernel, by decide +kernel⟩, List.mem_of_getElem? (i := 146) (by decide +kernel), List.mem_of_getElem? (i := 332) (by decide +kernel), List.mem_of_getElem? (i := 333) (by decide +kernel)⟩
theorem lw_p6 : lw_okq (⟨"SeatScene$Text", "takeItem", "(LSeatScene$Chapter;Z)Z"⟩, 8) := ⟨⟨by decide +kernel, by decide +kernel⟩, List.mem_of_getElem? (i := 146) (by decide +kernel), List.mem_of_getElem? (i := 336) (by decide +kernel), List.mem_of_getElem? (i := 337) (by decide +kernel)⟩
theorem lw_p7 : lw_okq (⟨"SeatScene$Text", "wordNumber", "()I"⟩, 8) := ⟨⟨by decide +kernel, by decide +kernel⟩, List.mem_of_getElem? (i := 146) (by decide +kernel), List.mem_of_getElem? (i := 340) (by decide +kernel), List.mem_of_getElem? (i := 341) (by decide +kernel)⟩
theorem lw_p8 : lw_okq (⟨"SeatScene$Text", "isWord", "(Ljava/lang/String;)Z"⟩, 8) := ⟨⟨by decide +kernel, by decide +kernel⟩, List.mem_of_getElem? (i := 146) (by decide +kernel), List.mem_of_getElem? (i := 345) (by decide +kernel), List.mem_of_getElem? (i := 346) (by decide +kernel)⟩
theorem lw_p9 : lw_okq (⟨"SeatScene$Text", "takeStop", "()Z"⟩, 8) := ⟨⟨by decide +kernel, by decide +kernel⟩, List.mem_of_getElem? (i := 146) (by decide +kernel), List.mem_of_getElem? (i := 401) (by decide +kernel), List.mem_of_getElem? (i := 402) (by decide +kernel)⟩
theorem lw_p10 : lw_okq (⟨"SeatScene$Text", "takeNumber", "(III)Z"⟩, 8) := ⟨⟨by decide +kernel, by decide +kernel⟩, List.mem_of_getElem? (i := 146) (by decide +kernel), List.mem_of_getElem? (i := 405) (by decide +kernel), List.mem_of_getElem? (i := 406) (by decide +kernel)⟩
theorem lw_p11 : lw_okq (⟨"SeatScene", "isCanon", "(I)Z"⟩, 14) := ⟨⟨by decide +kernel, by decide +kernel⟩, List.mem_of_getElem? (i := 16) (by decide +kernel), List.mem_of_getElem? (i := 477) (by decide +kernel), List.mem_of_getElem? (i := 478) (by decide +kernel)⟩
theorem lw_p12 : lw_okq (⟨"SeatScene", "isSeatOrNone", "(I)Z"⟩, 14) := ⟨⟨by decide +kernel, by decide +kernel⟩, List.mem_of_getElem? (i := 16) (by decide +kernel), List.mem_of_getElem? (i := 481) (by decide +kernel), List.mem_of_getElem? (i := 482) (by decide +kernel)⟩
theorem lw_p13 : lw_okq (⟨"SeatScene", "isSeat", "(I)Z"⟩, 14) := ⟨⟨by decide +kernel, by decide +kernel⟩, List.mem_of_getElem? (i := 16) (by decide +kernel), List.mem_of_getElem? (i := 485) (by decide +kernel), List.mem_of_getElem? (i := 486) (by decide +kernel)⟩
theorem lw_p14 : lw_okq (⟨"SeatScene", "refuseAs", "(I)I"⟩, 14) := ⟨⟨by decide +kernel, by decide +kernel⟩, List.mem_of_getElem? (i := 16) (by decide +kernel), List.mem_of_getElem? (i := 489) (by decide +kernel), List.mem_of_getElem? (i := 490) (by decide +kernel)⟩
theorem lw_p15 : lw_okq (⟨"SeatScene", "lookAhead", "(I)V"⟩, 14) := ⟨⟨by decide +kernel, by decide +kernel⟩, List.mem_of_getElem? (i := 16) (by decide +kernel), List.mem_of_getElem? (i := 555) (by decide +kernel), List.mem_of_getElem? (i := 556) (by decide +kernel)⟩
def lw_privs_1 : List (MethodName × Nat) := [(⟨"SeatScene", "refuse", "(I)I"⟩, 14), (⟨"SeatScene$Text", "step", "()V"⟩, 8), (⟨"SeatScene$Text", "isLetter", "(I)Z"⟩, 8), (⟨"SeatScene$Text", "stepWord", "()V"⟩, 8), (⟨"SeatScene$Text", "isFigure", "(I)Z"⟩, 8), (⟨"SeatScene$Text", "stepNumber", "()V"⟩, 8), (⟨"SeatScene$Text", "takeItem", "(LSeatScene$Chapter;Z)Z"⟩, 8), (⟨"SeatScene$Text", "wordNumber", "()I"⟩, 8), (⟨"SeatScene$Text", "isWord", "(Ljava/lang/String;)Z"⟩, 8), (⟨"SeatScene$Text", "takeStop", "()Z"⟩, 8), (⟨"SeatScene$Text", "takeNumber", "(III)Z"⟩, 8), (⟨"SeatScene", "isCanon", "(I)Z"⟩, 14), (⟨"SeatScene", "isSeatOrNone", "(I)Z"⟩, 14), (⟨"SeatScene", "isSeat", "(I)Z"⟩, 14), (⟨"SeatScene", "refuseAs", "(I)I"⟩, 14), (⟨"SeatScene", "lookAhead", "(I)V"⟩, 14)]
theorem lw_r1 : ∀ q ∈ lw_privs_1, lw_okq q := List.forall_mem_cons.mpr ⟨lw_p0, List.forall_mem_cons.mpr ⟨lw_p1, List.forall_mem_cons.mpr ⟨lw_p2, List.forall_mem_cons.mpr ⟨lw_p3, List.forall_mem_cons.mpr ⟨lw_p4, List.forall_mem_cons.mpr ⟨lw_p5, List.forall_mem_cons.mpr ⟨lw_p6, List.forall_mem_cons.mpr ⟨lw_p7, List.forall_mem_cons.mpr ⟨lw_p8, List.forall_mem_cons.mpr ⟨lw_p9, List.forall_mem_cons.mpr ⟨lw_p10, List.forall_mem_cons.mpr ⟨lw_p11, List.forall_mem_cons.mpr ⟨lw_p12, List.forall_mem_cons.mpr ⟨lw_p13, List.forall_mem_cons.mpr ⟨lw_p14, List.forall_mem_cons.mpr ⟨lw_p15, fun _ h => absurd h List.not_mem_nil⟩⟩⟩⟩⟩⟩⟩⟩⟩⟩⟩⟩⟩⟩⟩⟩
theorem lw_p16 : lw_okq (⟨"SeatScene", "yearsUntil", "(IIII)I"⟩, 14) := ⟨⟨by decide +kernel, by decide +kernel⟩, List.mem_of_getElem? (i := 16) (by decide +kernel), List.mem_of_getElem? (i := 569) (by decide +kernel), List.mem_of_getElem? (i := 570) (by decide +kernel)⟩
theorem lw_p17 : lw_okq (⟨"SeatScene", "write", "(LSeatScene$Rows;IIIII)I"⟩, 14) := ⟨⟨by decide +kernel, by decide +kernel⟩, List.mem_of_getElem? (i := 16) (by decide +kernel), List.mem_of_getElem? (i := 595) (by decide +kernel), List.mem_of_getElem? (i := 596) (by decide +kernel)⟩
theorem lw_p18 : lw_okq (⟨"SeatScene", "seatKinds", "(I)I"⟩, 14) := ⟨⟨by decide +kernel, by decide +kernel⟩, List.mem_of_getElem? (i := 16) (by decide +kernel), List.mem_of_getElem? (i := 662) (by decide +kernel), List.mem_of_getElem? (i := 663) (by decide +kernel)⟩
theorem lw_p19 : lw_okq (⟨"SeatScene", "mostAlike", "(I)I"⟩, 14) := ⟨⟨by decide +kernel, by decide +kernel⟩, List.mem_of_getElem? (i := 16) (by decide +kernel), List.mem_of_getElem? (i := 671) (by decide +kernel), List.mem_of_getElem? (i := 672) (by decide +kernel)⟩
theorem lw_p20 : lw_okq (⟨"SeatScene", "canonKinds", "(I)I"⟩, 14) := ⟨⟨by decide +kernel, by decide +kernel⟩, List.mem_of_getElem? (i := 16) (by decide +kernel), List.mem_of_getElem? (i := 679) (by decide +kernel), List.mem_of_getElem? (i := 680) (by decide +kernel)⟩
theorem lw_p21 : lw_okq (⟨"SeatScene", "isContent", "([III)Z"⟩, 14) := ⟨⟨by decide +kernel, by decide +kernel⟩, List.mem_of_getElem? (i := 16) (by decide +kernel), List.mem_of_getElem? (i := 692) (by decide +kernel), List.mem_of_getElem? (i := 693) (by decide +kernel)⟩
theorem lw_p22 : lw_okq (⟨"SeatScene", "setFraction", "(JJ)V"⟩, 14) := ⟨⟨by decide +kernel, by decide +kernel⟩, List.mem_of_getElem? (i := 16) (by decide +kernel), List.mem_of_getElem? (i := 707) (by decide +kernel), List.mem_of_getElem? (i := 708) (by decide +kernel)⟩
theorem lw_p23 : lw_okq (⟨"SeatScene", "howMany", "(I)I"⟩, 14) := ⟨⟨by decide +kernel, by decide +kernel⟩, List.mem_of_getElem? (i := 16) (by decide +kernel), List.mem_of_getElem? (i := 742) (by decide +kernel), List.mem_of_getElem? (i := 743) (by decide +kernel)⟩
theorem lw_p24 : lw_okq (⟨"SeatSceneModel", "bad", "()I"⟩, 24) := ⟨⟨by decide +kernel, by decide +kernel⟩, List.mem_of_getElem? (i := 770) (by decide +kernel), List.mem_of_getElem? (i := 869) (by decide +kernel), List.mem_of_getElem? (i := 870) (by decide +kernel)⟩
theorem lw_p25 : lw_okq (⟨"SeatSceneModel", "refused", "(II)I"⟩, 24) := ⟨⟨by decide +kernel, by decide +kernel⟩, List.mem_of_getElem? (i := 770) (by decide +kernel), List.mem_of_getElem? (i := 873) (by decide +kernel), List.mem_of_getElem? (i := 874) (by decide +kernel)⟩
theorem lw_p26 : lw_okq (⟨"SeatSceneModel", "step", "()V"⟩, 24) := ⟨⟨by decide +kernel, by decide +kernel⟩, List.mem_of_getElem? (i := 770) (by decide +kernel), List.mem_of_getElem? (i := 895) (by decide +kernel), List.mem_of_getElem? (i := 896) (by decide +kernel)⟩
theorem lw_p27 : lw_okq (⟨"SeatSceneModel", "isLetter", "()Z"⟩, 24) := ⟨⟨by decide +kernel, by decide +kernel⟩, List.mem_of_getElem? (i := 770) (by decide +kernel), List.mem_of_getElem? (i := 899) (by decide +kernel), List.mem_of_getElem? (i := 900) (by decide +kernel)⟩
theorem lw_p28 : lw_okq (⟨"SeatSceneModel", "readsLetters", "()V"⟩, 24) := ⟨⟨by decide +kernel, by decide +kernel⟩, List.mem_of_getElem? (i := 770) (by decide +kernel), List.mem_of_getElem? (i := 905) (by decide +kernel), List.mem_of_getElem? (i := 906) (by decide +kernel)⟩
theorem lw_p29 : lw_okq (⟨"SeatSceneModel", "isFigure", "()Z"⟩, 24) := ⟨⟨by decide +kernel, by decide +kernel⟩, List.mem_of_getElem? (i := 770) (by decide +kernel), List.mem_of_getElem? (i := 909) (by decide +kernel), List.mem_of_getElem? (i := 910) (by decide +kernel)⟩
theorem lw_p30 : lw_okq (⟨"SeatSceneModel", "readsItem", "(I)Z"⟩, 24) := ⟨⟨by decide +kernel, by decide +kernel⟩, List.mem_of_getElem? (i := 770) (by decide +kernel), List.mem_of_getElem? (i := 915) (by decide +kernel), List.mem_of_getElem? (i := 916) (by decide +kernel)⟩
theorem lw_p31 : lw_okq (⟨"SeatSceneModel", "isWord", "(II)Z"⟩, 24) := ⟨⟨by decide +kernel, by decide +kernel⟩, List.mem_of_getElem? (i := 770) (by decide +kernel), List.mem_of_getElem? (i := 920) (by decide +kernel), List.mem_of_getElem? (i := 921) (by decide +kernel)⟩
def lw_privs_2 : List (MethodName × Nat) := [(⟨"SeatScene", "yearsUntil", "(IIII)I"⟩, 14), (⟨"SeatScene", "write", "(LSeatScene$Rows;IIIII)I"⟩, 14), (⟨"SeatScene", "seatKinds", "(I)I"⟩, 14), (⟨"SeatScene", "mostAlike", "(I)I"⟩, 14), (⟨"SeatScene", "canonKinds", "(I)I"⟩, 14), (⟨"SeatScene", "isContent", "([III)Z"⟩, 14), (⟨"SeatScene", "setFraction", "(JJ)V"⟩, 14), (⟨"SeatScene", "howMany", "(I)I"⟩, 14), (⟨"SeatSceneModel", "bad", "()I"⟩, 24), (⟨"SeatSceneModel", "refused", "(II)I"⟩, 24), (⟨"SeatSceneModel", "step", "()V"⟩, 24), (⟨"SeatSceneModel", "isLetter", "()Z"⟩, 24), (⟨"SeatSceneModel", "readsLetters", "()V"⟩, 24), (⟨"SeatSceneModel", "isFigure", "()Z"⟩, 24), (⟨"SeatSceneModel", "readsItem", "(I)Z"⟩, 24), (⟨"SeatSceneModel", "isWord", "(II)Z"⟩, 24)]
theorem lw_r2 : ∀ q ∈ lw_privs_2, lw_okq q := List.forall_mem_cons.mpr ⟨lw_p16, List.forall_mem_cons.mpr ⟨lw_p17, List.forall_mem_cons.mpr ⟨lw_p18, List.forall_mem_cons.mpr ⟨lw_p19, List.forall_mem_cons.mpr ⟨lw_p20, List.forall_mem_cons.mpr ⟨lw_p21, List.forall_mem_cons.mpr ⟨lw_p22, List.forall_mem_cons.mpr ⟨lw_p23, List.forall_mem_cons.mpr ⟨lw_p24, List.forall_mem_cons.mpr ⟨lw_p25, List.forall_mem_cons.mpr ⟨lw_p26, List.forall_mem_cons.mpr ⟨lw_p27, List.forall_mem_cons.mpr ⟨lw_p28, List.forall_mem_cons.mpr ⟨lw_p29, List.forall_mem_cons.mpr ⟨lw_p30, List.forall_mem_cons.mpr ⟨lw_p31, fun _ h => absurd h List.not_mem_nil⟩⟩⟩⟩⟩⟩⟩⟩⟩⟩⟩⟩⟩⟩⟩⟩
theorem lw_p32 : lw_okq (⟨"SeatSceneModel", "readsSeat", "()Z"⟩, 24) := ⟨⟨by decide +kernel, by decide +kernel⟩, List.mem_of_getElem? (i := 770) (by decide +kernel), List.mem_of_getElem? (i := 925) (by decide +kernel), List.mem_of_getElem? (i := 926) (by decide +kernel)⟩
theorem lw_p33 : lw_okq (⟨"SeatSceneModel", "number", "(II)Z"⟩, 24) := ⟨⟨by decide +kernel, by decide +kernel⟩, List.mem_of_getElem? (i := 770) (by decide +kernel), List.mem_of_getElem? (i := 929) (by decide +kernel), List.mem_of_getElem? (i := 930) (by decide +kernel)⟩
theorem lw_p34 : lw_okq (⟨"SeatSceneModel", "readsCanon", "()Z"⟩, 24) := ⟨⟨by decide +kernel, by decide +kernel⟩, List.mem_of_getElem? (i := 770) (by decide +kernel), List.mem_of_getElem? (i := 934) (by decide +kernel), List.mem_of_getElem? (i := 935) (by decide +kernel)⟩
theorem lw_p35 : lw_okq (⟨"SeatSceneModel", "readsSitting", "()Z"⟩, 24) := ⟨⟨by decide +kernel, by decide +kernel⟩, List.mem_of_getElem? (i := 770) (by decide +kernel), List.mem_of_getElem? (i := 939) (by decide +kernel), List.mem_of_getElem? (i := 940) (by decide +kernel)⟩
theorem lw_p36 : lw_okq (⟨"SeatSceneModel", "readsYears", "()Z"⟩, 24) := ⟨⟨by decide +kernel, by decide +kernel⟩, List.mem_of_getElem? (i := 770) (by decide +kernel), List.mem_of_getElem? (i := 947) (by decide +kernel), List.mem_of_getElem? (i := 948) (by decide +kernel)⟩
theorem lw_p37 : lw_okq (⟨"SeatSceneModel", "swapsRows", "()V"⟩, 24) := ⟨⟨by decide +kernel, by decide +kernel⟩, List.mem_of_getElem? (i := 770) (by decide +kernel), List.mem_of_getElem? (i := 951) (by decide +kernel), List.mem_of_getElem? (i := 952) (by decide +kernel)⟩
theorem lw_p38 : lw_okq (⟨"SeatSceneModel", "yearGoes", "([I)V"⟩, 24) := ⟨⟨by decide +kernel, by decide +kernel⟩, List.mem_of_getElem? (i := 770) (by decide +kernel), List.mem_of_getElem? (i := 955) (by decide +kernel), List.mem_of_getElem? (i := 956) (by decide +kernel)⟩
theorem lw_p39 : lw_okq (⟨"SeatSceneModel", "oneTakes", "([II)V"⟩, 24) := ⟨⟨by decide +kernel, by decide +kernel⟩, List.mem_of_getElem? (i := 770) (by decide +kernel), List.mem_of_getElem? (i := 959) (by decide +kernel), List.mem_of_getElem? (i := 960) (by decide +kernel)⟩
theorem lw_p40 : lw_okq (⟨"SeatSceneModel", "takesOn", "([III)I"⟩, 24) := ⟨⟨by decide +kernel, by decide +kernel⟩, List.mem_of_getElem? (i := 770) (by decide +kernel), List.mem_of_getElem? (i := 963) (by decide +kernel), List.mem_of_getElem? (i := 964) (by decide +kernel)⟩
theorem lw_p41 : lw_okq (⟨"SeatSceneModel", "isCanon", "(I)Z"⟩, 24) := ⟨⟨by decide +kernel, by decide +kernel⟩, List.mem_of_getElem? (i := 770) (by decide +kernel), List.mem_of_getElem? (i := 986) (by decide +kernel), List.mem_of_getElem? (i := 987) (by decide +kernel)⟩
theorem lw_p42 : lw_okq (⟨"SeatSceneModel", "isSeat", "(I)Z"⟩, 24) := ⟨⟨by decide +kernel, by decide +kernel⟩, List.mem_of_getElem? (i := 770) (by decide +kernel), List.mem_of_getElem? (i := 990) (by decide +kernel), List.mem_of_getElem? (i := 991) (by decide +kernel)⟩
theorem lw_p43 : lw_okq (⟨"SeatSceneModel", "badTen", "()I"⟩, 24) := ⟨⟨by decide +kernel, by decide +kernel⟩, List.mem_of_getElem? (i := 770) (by decide +kernel), List.mem_of_getElem? (i := 994) (by decide +kernel), List.mem_of_getElem? (i := 995) (by decide +kernel)⟩
theorem lw_p44 : lw_okq (⟨"SeatSceneModel", "remember", "()V"⟩, 24) := ⟨⟨by decide +kernel, by decide +kernel⟩, List.mem_of_getElem? (i := 770) (by decide +kernel), List.mem_of_getElem? (i := 998) (by decide +kernel), List.mem_of_getElem? (i := 999) (by decide +kernel)⟩
theorem lw_p45 : lw_okq (⟨"SeatSceneModel", "whoDo", "([I)I"⟩, 24) := ⟨⟨by decide +kernel, by decide +kernel⟩, List.mem_of_getElem? (i := 770) (by decide +kernel), List.mem_of_getElem? (i := 1014) (by decide +kernel), List.mem_of_getElem? (i := 1015) (by decide +kernel)⟩
theorem lw_p46 : lw_okq (⟨"SeatSceneModel", "layYears", "(I)V"⟩, 24) := ⟨⟨by decide +kernel, by decide +kernel⟩, List.mem_of_getElem? (i := 770) (by decide +kernel), List.mem_of_getElem? (i := 1046) (by decide +kernel), List.mem_of_getElem? (i := 1047) (by decide +kernel)⟩
theorem lw_p47 : lw_okq (⟨"SeatSceneModel", "layAside", "()V"⟩, 24) := ⟨⟨by decide +kernel, by decide +kernel⟩, List.mem_of_getElem? (i := 770) (by decide +kernel), List.mem_of_getElem? (i := 1050) (by decide +kernel), List.mem_of_getElem? (i := 1051) (by decide +kernel)⟩
def lw_privs_3 : List (MethodName × Nat) := [(⟨"SeatSceneModel", "readsSeat", "()Z"⟩, 24), (⟨"SeatSceneModel", "number", "(II)Z"⟩, 24), (⟨"SeatSceneModel", "readsCanon", "()Z"⟩, 24), (⟨"SeatSceneModel", "readsSitting", "()Z"⟩, 24), (⟨"SeatSceneModel", "readsYears", "()Z"⟩, 24), (⟨"SeatSceneModel", "swapsRows", "()V"⟩, 24), (⟨"SeatSceneModel", "yearGoes", "([I)V"⟩, 24), (⟨"SeatSceneModel", "oneTakes", "([II)V"⟩, 24), (⟨"SeatSceneModel", "takesOn", "([III)I"⟩, 24), (⟨"SeatSceneModel", "isCanon", "(I)Z"⟩, 24), (⟨"SeatSceneModel", "isSeat", "(I)Z"⟩, 24), (⟨"SeatSceneModel", "badTen", "()I"⟩, 24), (⟨"SeatSceneModel", "remember", "()V"⟩, 24), (⟨"SeatSceneModel", "whoDo", "([I)I"⟩, 24), (⟨"SeatSceneModel", "layYears", "(I)V"⟩, 24), (⟨"SeatSceneModel", "layAside", "()V"⟩, 24)]
theorem lw_r3 : ∀ q ∈ lw_privs_3, lw_okq q := List.forall_mem_cons.mpr ⟨lw_p32, List.forall_mem_cons.mpr ⟨lw_p33, List.forall_mem_cons.mpr ⟨lw_p34, List.forall_mem_cons.mpr ⟨lw_p35, List.forall_mem_cons.mpr ⟨lw_p36, List.forall_mem_cons.mpr ⟨lw_p37, List.forall_mem_cons.mpr ⟨lw_p38, List.forall_mem_cons.mpr ⟨lw_p39, List.forall_mem_cons.mpr ⟨lw_p40, List.forall_mem_cons.mpr ⟨lw_p41, List.forall_mem_cons.mpr ⟨lw_p42, List.forall_mem_cons.mpr ⟨lw_p43, List.forall_mem_cons.mpr ⟨lw_p44, List.forall_mem_cons.mpr ⟨lw_p45, List.forall_mem_cons.mpr ⟨lw_p46, List.forall_mem_cons.mpr ⟨lw_p47, fun _ h => absurd h List.not_mem_nil⟩⟩⟩⟩⟩⟩⟩⟩⟩⟩⟩⟩⟩⟩⟩⟩
theorem lw_p48 : lw_okq (⟨"SeatSceneModel", "untilTaken", "(III)I"⟩, 24) := ⟨⟨by decide +kernel, by decide +kernel⟩, List.mem_of_getElem? (i := 770) (by decide +kernel), List.mem_of_getElem? (i := 1063) (by decide +kernel), List.mem_of_getElem? (i := 1064) (by decide +kernel)⟩
theorem lw_p49 : lw_okq (⟨"SeatSceneModel", "laysSeating", "(I)I"⟩, 24) := ⟨⟨by decide +kernel, by decide +kernel⟩, List.mem_of_getElem? (i := 770) (by decide +kernel), List.mem_of_getElem? (i := 1089) (by decide +kernel), List.mem_of_getElem? (i := 1090) (by decide +kernel)⟩
theorem lw_p50 : lw_okq (⟨"SeatSceneModel", "fulfilled", "(III)I"⟩, 24) := ⟨⟨by decide +kernel, by decide +kernel⟩, List.mem_of_getElem? (i := 770) (by decide +kernel), List.mem_of_getElem? (i := 1093) (by decide +kernel), List.mem_of_getElem? (i := 1094) (by decide +kernel)⟩
theorem lw_p51 : lw_okq (⟨"SeatSceneModel", "aloneGoes", "(I)V"⟩, 24) := ⟨⟨by decide +kernel, by decide +kernel⟩, List.mem_of_getElem? (i := 770) (by decide +kernel), List.mem_of_getElem? (i := 1097) (by decide +kernel), List.mem_of_getElem? (i := 1098) (by decide +kernel)⟩
theorem lw_p52 : lw_okq (⟨"SeatSceneModel", "nextRow", "()Z"⟩, 24) := ⟨⟨by decide +kernel, by decide +kernel⟩, List.mem_of_getElem? (i := 770) (by decide +kernel), List.mem_of_getElem? (i := 1101) (by decide +kernel), List.mem_of_getElem? (i := 1102) (by decide +kernel)⟩
theorem lw_p53 : lw_okq (⟨"SeatSceneModel", "isBefore", "(I)Z"⟩, 24) := ⟨⟨by decide +kernel, by decide +kernel⟩, List.mem_of_getElem? (i := 770) (by decide +kernel), List.mem_of_getElem? (i := 1105) (by decide +kernel), List.mem_of_getElem? (i := 1106) (by decide +kernel)⟩
theorem lw_p54 : lw_okq (⟨"SeatSceneModel", "nextOrder", "(I)Z"⟩, 24) := ⟨⟨by decide +kernel, by decide +kernel⟩, List.mem_of_getElem? (i := 770) (by decide +kernel), List.mem_of_getElem? (i := 1117) (by decide +kernel), List.mem_of_getElem? (i := 1118) (by decide +kernel)⟩
theorem lw_p55 : lw_okq (⟨"SeatSceneModel", "kindsOf", "(I)I"⟩, 24) := ⟨⟨by decide +kernel, by decide +kernel⟩, List.mem_of_getElem? (i := 770) (by decide +kernel), List.mem_of_getElem? (i := 1147) (by decide +kernel), List.mem_of_getElem? (i := 1148) (by decide +kernel)⟩
theorem lw_p56 : lw_okq (⟨"SeatSceneModel", "countsNone", "()V"⟩, 24) := ⟨⟨by decide +kernel, by decide +kernel⟩, List.mem_of_getElem? (i := 770) (by decide +kernel), List.mem_of_getElem? (i := 1155) (by decide +kernel), List.mem_of_getElem? (i := 1156) (by decide +kernel)⟩
theorem lw_p57 : lw_okq (⟨"SeatSceneModel", "counts", "(I)V"⟩, 24) := ⟨⟨by decide +kernel, by decide +kernel⟩, List.mem_of_getElem? (i := 770) (by decide +kernel), List.mem_of_getElem? (i := 1162) (by decide +kernel), List.mem_of_getElem? (i := 1163) (by decide +kernel)⟩
theorem lw_p58 : lw_okq (⟨"SeatSceneModel", "kindsOfOne", "(I)I"⟩, 24) := ⟨⟨by decide +kernel, by decide +kernel⟩, List.mem_of_getElem? (i := 770) (by decide +kernel), List.mem_of_getElem? (i := 1170) (by decide +kernel), List.mem_of_getElem? (i := 1171) (by decide +kernel)⟩
theorem lw_p59 : lw_okq (⟨"SeatSceneModel", "stays", "(III)Z"⟩, 24) := ⟨⟨by decide +kernel, by decide +kernel⟩, List.mem_of_getElem? (i := 770) (by decide +kernel), List.mem_of_getElem? (i := 1182) (by decide +kernel), List.mem_of_getElem? (i := 1183) (by decide +kernel)⟩
theorem lw_p60 : lw_okq (⟨"SeatSceneModel", "fraction", "(JJ)V"⟩, 24) := ⟨⟨by decide +kernel, by decide +kernel⟩, List.mem_of_getElem? (i := 770) (by decide +kernel), List.mem_of_getElem? (i := 1191) (by decide +kernel), List.mem_of_getElem? (i := 1192) (by decide +kernel)⟩
theorem lw_p61 : lw_okq (⟨"SeatSceneModel", "counted", "(I)I"⟩, 24) := ⟨⟨by decide +kernel, by decide +kernel⟩, List.mem_of_getElem? (i := 770) (by decide +kernel), List.mem_of_getElem? (i := 1225) (by decide +kernel), List.mem_of_getElem? (i := 1226) (by decide +kernel)⟩
theorem lw_p62 : lw_okq (⟨"SeatSceneModel", "whoSit", "()I"⟩, 24) := ⟨⟨by decide +kernel, by decide +kernel⟩, List.mem_of_getElem? (i := 770) (by decide +kernel), List.mem_of_getElem? (i := 1229) (by decide +kernel), List.mem_of_getElem? (i := 1230) (by decide +kernel)⟩
theorem lw_p63 : lw_okq (⟨"SeatSceneModel", "sum", "(II)I"⟩, 24) := ⟨⟨by decide +kernel, by decide +kernel⟩, List.mem_of_getElem? (i := 770) (by decide +kernel), List.mem_of_getElem? (i := 1233) (by decide +kernel), List.mem_of_getElem? (i := 1234) (by decide +kernel)⟩
def lw_privs_4 : List (MethodName × Nat) := [(⟨"SeatSceneModel", "untilTaken", "(III)I"⟩, 24), (⟨"SeatSceneModel", "laysSeating", "(I)I"⟩, 24), (⟨"SeatSceneModel", "fulfilled", "(III)I"⟩, 24), (⟨"SeatSceneModel", "aloneGoes", "(I)V"⟩, 24), (⟨"SeatSceneModel", "nextRow", "()Z"⟩, 24), (⟨"SeatSceneModel", "isBefore", "(I)Z"⟩, 24), (⟨"SeatSceneModel", "nextOrder", "(I)Z"⟩, 24), (⟨"SeatSceneModel", "kindsOf", "(I)I"⟩, 24), (⟨"SeatSceneModel", "countsNone", "()V"⟩, 24), (⟨"SeatSceneModel", "counts", "(I)V"⟩, 24), (⟨"SeatSceneModel", "kindsOfOne", "(I)I"⟩, 24), (⟨"SeatSceneModel", "stays", "(III)Z"⟩, 24), (⟨"SeatSceneModel", "fraction", "(JJ)V"⟩, 24), (⟨"SeatSceneModel", "counted", "(I)I"⟩, 24), (⟨"SeatSceneModel", "whoSit", "()I"⟩, 24), (⟨"SeatSceneModel", "sum", "(II)I"⟩, 24)]
theorem lw_r4 : ∀ q ∈ lw_privs_4, lw_okq q := List.forall_mem_cons.mpr ⟨lw_p48, List.forall_mem_cons.mpr ⟨lw_p49, List.forall_mem_cons.mpr ⟨lw_p50, List.forall_mem_cons.mpr ⟨lw_p51, List.forall_mem_cons.mpr ⟨lw_p52, List.forall_mem_cons.mpr ⟨lw_p53, List.forall_mem_cons.mpr ⟨lw_p54, List.forall_mem_cons.mpr ⟨lw_p55, List.forall_mem_cons.mpr ⟨lw_p56, List.forall_mem_cons.mpr ⟨lw_p57, List.forall_mem_cons.mpr ⟨lw_p58, List.forall_mem_cons.mpr ⟨lw_p59, List.forall_mem_cons.mpr ⟨lw_p60, List.forall_mem_cons.mpr ⟨lw_p61, List.forall_mem_cons.mpr ⟨lw_p62, List.forall_mem_cons.mpr ⟨lw_p63, fun _ h => absurd h List.not_mem_nil⟩⟩⟩⟩⟩⟩⟩⟩⟩⟩⟩⟩⟩⟩⟩⟩
theorem lw_p64 : lw_okq (⟨"SeatSceneModel", "digests", "(II)V"⟩, 24) := ⟨⟨by decide +kernel, by decide +kernel⟩, List.mem_of_getElem? (i := 770) (by decide +kernel), List.mem_of_getElem? (i := 1243) (by decide +kernel), List.mem_of_getElem? (i := 1244) (by decide +kernel)⟩
def lw_privs_5 : List (MethodName × Nat) := [(⟨"SeatSceneModel", "digests", "(II)V"⟩, 24)]
theorem lw_r5 : ∀ q ∈ lw_privs_5, lw_okq q := List.forall_mem_cons.mpr ⟨lw_p64, fun _ h => absurd h List.not_mem_nil⟩
def lw_privs : List (MethodName × Nat) := lw_privs_1 ++ (lw_privs_2 ++ (lw_privs_3 ++ (lw_privs_4 ++ (lw_privs_5))))
def lw_tbl : List Cond := k2_sels lw_privs ++ tables_1
theorem lw_privs_ok : ∀ q ∈ lw_privs, lw_okq q := by
  show ∀ q ∈ lw_privs_1 ++ (lw_privs_2 ++ (lw_privs_3 ++ (lw_privs_4 ++ (lw_privs_5)))), lw_okq q
  exact List.forall_mem_append.mpr ⟨lw_r1, List.forall_mem_append.mpr ⟨lw_r2, List.forall_mem_append.mpr ⟨lw_r3, List.forall_mem_append.mpr ⟨lw_r4, lw_r5⟩⟩⟩⟩
def RX0 : String := "SeatScene$Chapter"
def TX0 : u_T := fun k => match k with
  | 0 => ("SeatScene$Chapter", "seats", "I", false)
  | 1 => ("SeatScene$Chapter", "canons", "I", false)
  | 2 => ("SeatScene$Chapter", "pastCount", "I", false)
  | 3 => ("SeatScene$Chapter", "seatKind", "[I", true)
  | 4 => ("SeatScene$Chapter", "seatTrait", "[I", true)
  | 5 => ("SeatScene$Chapter", "canonKind", "[I", true)
  | 6 => ("SeatScene$Chapter", "canonWeight", "[I", true)
  | 7 => ("SeatScene$Chapter", "heaviness", "[I", true)
  | 8 => ("SeatScene$Chapter", "scene", "LSeatScene$Scene;", true)
  | 9 => ("SeatScene$Chapter", "past", "[LSeatScene$Scene;", true)
  | 10 => ("SeatScene$Chapter", "wishes", "LSeatScene$Rows;", true)
  | 11 => ("SeatScene$Chapter", "notes", "LSeatScene$Rows;", true)
  | _ => ("SeatScene$Chapter", "marks", "LSeatScene$Rows;", true)
def tyX0 : Nat → FieldType := fun k => match k with
  | 0 => .int
  | 1 => .int
  | 2 => .int
  | 3 => .array .int
  | 4 => .array .int
  | 5 => .array .int
  | 6 => .array .int
  | 7 => .array .int
  | 8 => .object "SeatScene$Scene"
  | 9 => .array (.object "SeatScene$Scene")
  | 10 => .object "SeatScene$Rows"
  | 11 => .object "SeatScene$Rows"
  | _ => .object "SeatScene$Rows"
abbrev wsX00 : List Cond := u_ws RX0 TX0 13
theorem nmX0 : ∀ a, a < 13 → ∀ b, b < 13 → a ≠ b → (TX0 a).2.1 ≠ (TX0 b).2.1 := by decide +kernel
theorem tyX0_ok : ∀ k, k < 13 → parseFieldDescriptor (TX0 k).2.2.1 = some (tyX0 k) := by decide +kernel
abbrev cX0_init : ByteArray := prog_2_method_1_code
def yX0_init : MethodName := ⟨RX0, "<init>", "()V"⟩
abbrev cX0_empty : ByteArray := prog_2_method_2_code
def yX0_empty : MethodName := ⟨RX0, "empty", "()V"⟩
abbrev cX0_become : ByteArray := prog_2_method_3_code
def yX0_become : MethodName := ⟨RX0, "become", "(LSeatScene$Chapter;)V"⟩
abbrev cX0_addSeat : ByteArray := prog_2_method_4_code
def yX0_addSeat : MethodName := ⟨RX0, "addSeat", "(III)I"⟩
abbrev cX0_addCanon : ByteArray := prog_2_method_5_code
def yX0_addCanon : MethodName := ⟨RX0, "addCanon", "(II)I"⟩
abbrev cX0_keepPast : ByteArray := prog_2_method_6_code
def yX0_keepPast : MethodName := ⟨RX0, "keepPast", "()V"⟩
abbrev cX0_goBack : ByteArray := prog_2_method_7_code
def yX0_goBack : MethodName := ⟨RX0, "goBack", "()V"⟩
abbrev cX0_wouldTake : ByteArray := prog_2_method_8_code
def yX0_wouldTake : MethodName := ⟨RX0, "wouldTake", "(LSeatScene$Scene;II)I"⟩
abbrev cX0_passFor : ByteArray := prog_2_method_9_code
def yX0_passFor : MethodName := ⟨RX0, "passFor", "(LSeatScene$Scene;I)V"⟩
abbrev cX0_pass : ByteArray := prog_2_method_10_code
def yX0_pass : MethodName := ⟨RX0, "pass", "(LSeatScene$Scene;)V"⟩
abbrev cX0_passUpToLast : ByteArray := prog_2_method_11_code
def yX0_passUpToLast : MethodName := ⟨RX0, "passUpToLast", "(I)V"⟩
abbrev cX0_mix : ByteArray := prog_2_method_12_code
def yX0_mix : MethodName := ⟨RX0, "mix", "(J)J"⟩
def RX1 : String := "SeatScene$Rows"
def TX1 : u_T := fun k => match k with
  | 0 => ("SeatScene$Rows", "width", "I", true)
  | 1 => ("SeatScene$Rows", "many", "I", false)
  | _ => ("SeatScene$Rows", "cells", "[I", true)
def tyX1 : Nat → FieldType := fun k => match k with
  | 0 => .int
  | 1 => .int
  | _ => .array .int
abbrev wsX10 : List Cond := u_ws RX1 TX1 3
theorem nmX1 : ∀ a, a < 3 → ∀ b, b < 3 → a ≠ b → (TX1 a).2.1 ≠ (TX1 b).2.1 := by decide +kernel
theorem tyX1_ok : ∀ k, k < 3 → parseFieldDescriptor (TX1 k).2.2.1 = some (tyX1 k) := by decide +kernel
abbrev cX1_init : ByteArray := prog_3_method_1_code
def yX1_init : MethodName := ⟨RX1, "<init>", "(I)V"⟩
abbrev cX1_become : ByteArray := prog_3_method_2_code
def yX1_become : MethodName := ⟨RX1, "become", "(LSeatScene$Rows;)V"⟩
abbrev cX1_add : ByteArray := prog_3_method_3_code
def yX1_add : MethodName := ⟨RX1, "add", "(IIIII)V"⟩
abbrev cX1_at : ByteArray := prog_3_method_4_code
def yX1_at : MethodName := ⟨RX1, "at", "(II)I"⟩
abbrev cX1_mix : ByteArray := prog_3_method_5_code
def yX1_mix : MethodName := ⟨RX1, "mix", "(J)J"⟩
def RX2 : String := "SeatScene$Scene"
def TX2 : u_T := fun k => match k with
  | 0 => ("SeatScene$Scene", "year", "I", false)
  | 1 => ("SeatScene$Scene", "seatOf", "[I", true)
  | 2 => ("SeatScene$Scene", "taken", "[I", true)
  | _ => ("SeatScene$Scene", "depth", "[I", true)
def tyX2 : Nat → FieldType := fun k => match k with
  | 0 => .int
  | 1 => .array .int
  | 2 => .array .int
  | _ => .array .int
abbrev wsX20 : List Cond := u_ws RX2 TX2 4
theorem nmX2 : ∀ a, a < 4 → ∀ b, b < 4 → a ≠ b → (TX2 a).2.1 ≠ (TX2 b).2.1 := by decide +kernel
theorem tyX2_ok : ∀ k, k < 4 → parseFieldDescriptor (TX2 k).2.2.1 = some (tyX2 k) := by decide +kernel
abbrev cX2_init : ByteArray := prog_4_method_1_code
def yX2_init : MethodName := ⟨RX2, "<init>", "()V"⟩
abbrev cX2_empty : ByteArray := prog_4_method_2_code
def yX2_empty : MethodName := ⟨RX2, "empty", "()V"⟩
abbrev cX2_become : ByteArray := prog_4_method_3_code
def yX2_become : MethodName := ⟨RX2, "become", "(LSeatScene$Scene;)V"⟩
abbrev cX2_takenOf : ByteArray := prog_4_method_4_code
def yX2_takenOf : MethodName := ⟨RX2, "takenOf", "(II)I"⟩
abbrev cX2_sitter : ByteArray := prog_4_method_5_code
def yX2_sitter : MethodName := ⟨RX2, "sitter", "(I)I"⟩
abbrev cX2_isHeldByOther : ByteArray := prog_4_method_6_code
def yX2_isHeldByOther : MethodName := ⟨RX2, "isHeldByOther", "(II)Z"⟩
abbrev cX2_exchange : ByteArray := prog_4_method_7_code
def yX2_exchange : MethodName := ⟨RX2, "exchange", "(II)V"⟩
abbrev cX2_doing : ByteArray := prog_4_method_8_code
def yX2_doing : MethodName := ⟨RX2, "doing", "(I)I"⟩
abbrev cX2_doers : ByteArray := prog_4_method_9_code
def yX2_doers : MethodName := ⟨RX2, "doers", "()I"⟩
abbrev cX2_firstDoing : ByteArray := prog_4_method_10_code
def yX2_firstDoing : MethodName := ⟨RX2, "firstDoing", "(II)I"⟩
abbrev cX2_whoSit : ByteArray := prog_4_method_11_code
def yX2_whoSit : MethodName := ⟨RX2, "whoSit", "()I"⟩
def RX3 : String := "SeatScene$Search"
def TX3 : u_T := fun k => match k with
  | 0 => ("SeatScene$Search", "seats", "I", false)
  | 1 => ("SeatScene$Search", "canons", "I", false)
  | 2 => ("SeatScene$Search", "most", "I", false)
  | 3 => ("SeatScene$Search", "best", "[I", true)
  | 4 => ("SeatScene$Search", "way", "[I", true)
  | 5 => ("SeatScene$Search", "gain", "[I", true)
  | _ => ("SeatScene$Search", "hope", "[I", true)
def tyX3 : Nat → FieldType := fun k => match k with
  | 0 => .int
  | 1 => .int
  | 2 => .int
  | 3 => .array .int
  | 4 => .array .int
  | 5 => .array .int
  | _ => .array .int
abbrev wsX30 : List Cond := u_ws RX3 TX3 7
theorem nmX3 : ∀ a, a < 7 → ∀ b, b < 7 → a ≠ b → (TX3 a).2.1 ≠ (TX3 b).2.1 := by decide +kernel
theorem tyX3_ok : ∀ k, k < 7 → parseFieldDescriptor (TX3 k).2.2.1 = some (tyX3 k) := by decide +kernel
abbrev cX3_init : ByteArray := prog_5_method_1_code
def yX3_init : MethodName := ⟨RX3, "<init>", "()V"⟩
abbrev cX3_settle : ByteArray := prog_5_method_2_code
def yX3_settle : MethodName := ⟨RX3, "settle", "(LSeatScene$Chapter;LSeatScene$Scene;I)V"⟩
abbrev cX3_wishesCome : ByteArray := prog_5_method_3_code
def yX3_wishesCome : MethodName := ⟨RX3, "wishesCome", "(LSeatScene$Chapter;LSeatScene$Scene;III)I"⟩
abbrev cX3_tryFrom : ByteArray := prog_5_method_4_code
def yX3_tryFrom : MethodName := ⟨RX3, "tryFrom", "(LSeatScene$Search;III)V"⟩
def RX4 : String := "SeatScene$Text"
def TX4 : u_T := fun k => match k with
  | 0 => ("SeatScene$Text", "bytes", "[B", true)
  | 1 => ("SeatScene$Text", "length", "I", false)
  | 2 => ("SeatScene$Text", "start", "I", false)
  | 3 => ("SeatScene$Text", "end", "I", false)
  | 4 => ("SeatScene$Text", "sort", "I", false)
  | 5 => ("SeatScene$Text", "value", "I", false)
  | 6 => ("SeatScene$Text", "word", "I", false)
  | _ => ("SeatScene$Text", "number", "[I", true)
def tyX4 : Nat → FieldType := fun k => match k with
  | 0 => .array .byte
  | 1 => .int
  | 2 => .int
  | 3 => .int
  | 4 => .int
  | 5 => .int
  | 6 => .int
  | _ => .array .int
abbrev wsX40 : List Cond := u_ws RX4 TX4 8
theorem nmX4 : ∀ a, a < 8 → ∀ b, b < 8 → a ≠ b → (TX4 a).2.1 ≠ (TX4 b).2.1 := by decide +kernel
theorem tyX4_ok : ∀ k, k < 8 → parseFieldDescriptor (TX4 k).2.2.1 = some (tyX4 k) := by decide +kernel
abbrev cX4_init : ByteArray := prog_6_method_1_code
def yX4_init : MethodName := ⟨RX4, "<init>", "()V"⟩
abbrev cX4_tell : ByteArray := prog_6_method_2_code
def yX4_tell : MethodName := ⟨RX4, "tell", "(LSeatScene$Chapter;)I"⟩
abbrev cX4_takeItem : ByteArray := prog_6_method_3_code
def yX4_takeItem : MethodName := ⟨RX4, "takeItem", "(LSeatScene$Chapter;Z)Z"⟩
abbrev cX4_takeNumber : ByteArray := prog_6_method_4_code
def yX4_takeNumber : MethodName := ⟨RX4, "takeNumber", "(III)Z"⟩
abbrev cX4_takeStop : ByteArray := prog_6_method_5_code
def yX4_takeStop : MethodName := ⟨RX4, "takeStop", "()Z"⟩
abbrev cX4_step : ByteArray := prog_6_method_6_code
def yX4_step : MethodName := ⟨RX4, "step", "()V"⟩
abbrev cX4_stepWord : ByteArray := prog_6_method_7_code
def yX4_stepWord : MethodName := ⟨RX4, "stepWord", "()V"⟩
abbrev cX4_stepNumber : ByteArray := prog_6_method_8_code
def yX4_stepNumber : MethodName := ⟨RX4, "stepNumber", "()V"⟩
abbrev cX4_isLetter : ByteArray := prog_6_method_9_code
def yX4_isLetter : MethodName := ⟨RX4, "isLetter", "(I)Z"⟩
abbrev cX4_isFigure : ByteArray := prog_6_method_10_code
def yX4_isFigure : MethodName := ⟨RX4, "isFigure", "(I)Z"⟩
abbrev cX4_wordNumber : ByteArray := prog_6_method_11_code
def yX4_wordNumber : MethodName := ⟨RX4, "wordNumber", "()I"⟩
abbrev cX4_isWord : ByteArray := prog_6_method_12_code
def yX4_isWord : MethodName := ⟨RX4, "isWord", "(Ljava/lang/String;)Z"⟩
def RX5 : String := "SeatScene"
def TX5 : u_T := fun k => match k with
  | 0 => ("SeatScene", "now", "LSeatScene$Chapter;", true)
  | 1 => ("SeatScene", "spare", "LSeatScene$Chapter;", true)
  | 2 => ("SeatScene", "images", "[LSeatScene$Chapter;", true)
  | 3 => ("SeatScene", "kept", "[Z", true)
  | 4 => ("SeatScene", "ahead", "LSeatScene$Scene;", true)
  | 5 => ("SeatScene", "text", "LSeatScene$Text;", true)
  | 6 => ("SeatScene", "search", "LSeatScene$Search;", true)
  | 7 => ("SeatScene", "order", "[I", true)
  | 8 => ("SeatScene", "alike", "[I", true)
  | 9 => ("SeatScene", "getsA", "[I", true)
  | 10 => ("SeatScene", "getsB", "[I", true)
  | 11 => ("SeatScene", "refused", "[I", true)
  | 12 => ("SeatScene", "above", "J", false)
  | _ => ("SeatScene", "below", "J", false)
def tyX5 : Nat → FieldType := fun k => match k with
  | 0 => .object "SeatScene$Chapter"
  | 1 => .object "SeatScene$Chapter"
  | 2 => .array (.object "SeatScene$Chapter")
  | 3 => .array .boolean
  | 4 => .object "SeatScene$Scene"
  | 5 => .object "SeatScene$Text"
  | 6 => .object "SeatScene$Search"
  | 7 => .array .int
  | 8 => .array .int
  | 9 => .array .int
  | 10 => .array .int
  | 11 => .array .int
  | 12 => .long
  | _ => .long
abbrev wsX50 : List Cond := u_ws RX5 TX5 14
theorem nmX5 : ∀ a, a < 14 → ∀ b, b < 14 → a ≠ b → (TX5 a).2.1 ≠ (TX5 b).2.1 := by decide +kernel
theorem tyX5_ok : ∀ k, k < 14 → parseFieldDescriptor (TX5 k).2.2.1 = some (tyX5 k) := by decide +kernel
abbrev cX5_init : ByteArray := prog_1_method_1_code
def yX5_init : MethodName := ⟨RX5, "<init>", "()V"⟩
abbrev cX5_chapter : ByteArray := prog_1_method_2_code
def yX5_chapter : MethodName := ⟨RX5, "chapter", "()I"⟩
abbrev cX5_seat : ByteArray := prog_1_method_3_code
def yX5_seat : MethodName := ⟨RX5, "seat", "(III)I"⟩
abbrev cX5_canon : ByteArray := prog_1_method_4_code
def yX5_canon : MethodName := ⟨RX5, "canon", "(II)I"⟩
abbrev cX5_type : ByteArray := prog_1_method_5_code
def yX5_type : MethodName := ⟨RX5, "type", "(I)I"⟩
abbrev cX5_clear : ByteArray := prog_1_method_6_code
def yX5_clear : MethodName := ⟨RX5, "clear", "()I"⟩
abbrev cX5_read : ByteArray := prog_1_method_7_code
def yX5_read : MethodName := ⟨RX5, "read", "()I"⟩
abbrev cX5_sits : ByteArray := prog_1_method_8_code
def yX5_sits : MethodName := ⟨RX5, "sits", "(II)I"⟩
abbrev cX5_swap : ByteArray := prog_1_method_9_code
def yX5_swap : MethodName := ⟨RX5, "swap", "(II)I"⟩
abbrev cX5_year : ByteArray := prog_1_method_10_code
def yX5_year : MethodName := ⟨RX5, "year", "(I)I"⟩
abbrev cX5_undo : ByteArray := prog_1_method_11_code
def yX5_undo : MethodName := ⟨RX5, "undo", "()I"⟩
abbrev cX5_of : ByteArray := prog_1_method_12_code
def yX5_of : MethodName := ⟨RX5, "of", "(II)I"⟩
abbrev cX5_about : ByteArray := prog_1_method_13_code
def yX5_about : MethodName := ⟨RX5, "about", "(II)I"⟩
abbrev cX5_taken : ByteArray := prog_1_method_14_code
def yX5_taken : MethodName := ⟨RX5, "taken", "(II)I"⟩
abbrev cX5_takes : ByteArray := prog_1_method_15_code
def yX5_takes : MethodName := ⟨RX5, "takes", "(II)I"⟩
abbrev cX5_then : ByteArray := prog_1_method_16_code
def yX5_then : MethodName := ⟨RX5, "then", "(III)I"⟩
abbrev cX5_depth : ByteArray := prog_1_method_17_code
def yX5_depth : MethodName := ⟨RX5, "depth", "(II)I"⟩
abbrev cX5_when : ByteArray := prog_1_method_18_code
def yX5_when : MethodName := ⟨RX5, "when", "(III)I"⟩
abbrev cX5_first : ByteArray := prog_1_method_19_code
def yX5_first : MethodName := ⟨RX5, "first", "(II)I"⟩
abbrev cX5_blank : ByteArray := prog_1_method_20_code
def yX5_blank : MethodName := ⟨RX5, "blank", "(I)I"⟩
abbrev cX5_place : ByteArray := prog_1_method_21_code
def yX5_place : MethodName := ⟨RX5, "place", "(IIII)I"⟩
abbrev cX5_wish : ByteArray := prog_1_method_22_code
def yX5_wish : MethodName := ⟨RX5, "wish", "(III)I"⟩
abbrev cX5_seating : ByteArray := prog_1_method_23_code
def yX5_seating : MethodName := ⟨RX5, "seating", "(II)I"⟩
abbrev cX5_quarrels : ByteArray := prog_1_method_24_code
def yX5_quarrels : MethodName := ⟨RX5, "quarrels", "()I"⟩
abbrev cX5_row : ByteArray := prog_1_method_25_code
def yX5_row : MethodName := ⟨RX5, "row", "(I)I"⟩
abbrev cX5_blur : ByteArray := prog_1_method_26_code
def yX5_blur : MethodName := ⟨RX5, "blur", "(IIII)I"⟩
abbrev cX5_where : ByteArray := prog_1_method_27_code
def yX5_where : MethodName := ⟨RX5, "where", "(III)I"⟩
abbrev cX5_note : ByteArray := prog_1_method_28_code
def yX5_note : MethodName := ⟨RX5, "note", "(IIIII)I"⟩
abbrev cX5_mark : ByteArray := prog_1_method_29_code
def yX5_mark : MethodName := ⟨RX5, "mark", "(IIII)I"⟩
abbrev cX5_forget : ByteArray := prog_1_method_30_code
def yX5_forget : MethodName := ⟨RX5, "forget", "(I)I"⟩
abbrev cX5_is : ByteArray := prog_1_method_31_code
def yX5_is : MethodName := ⟨RX5, "is", "(I)I"⟩
abbrev cX5_look : ByteArray := prog_1_method_32_code
def yX5_look : MethodName := ⟨RX5, "look", "(I)I"⟩
abbrev cX5_what : ByteArray := prog_1_method_33_code
def yX5_what : MethodName := ⟨RX5, "what", "(I)I"⟩
abbrev cX5_tries : ByteArray := prog_1_method_34_code
def yX5_tries : MethodName := ⟨RX5, "tries", "(I)I"⟩
abbrev cX5_two : ByteArray := prog_1_method_35_code
def yX5_two : MethodName := ⟨RX5, "two", "(III)I"⟩
abbrev cX5_left : ByteArray := prog_1_method_36_code
def yX5_left : MethodName := ⟨RX5, "left", "(III)I"⟩
abbrev cX5_years : ByteArray := prog_1_method_37_code
def yX5_years : MethodName := ⟨RX5, "years", "(II)I"⟩
abbrev cX5_part : ByteArray := prog_1_method_38_code
def yX5_part : MethodName := ⟨RX5, "part", "(I)J"⟩
abbrev cX5_image : ByteArray := prog_1_method_39_code
def yX5_image : MethodName := ⟨RX5, "image", "(I)I"⟩
abbrev cX5_from : ByteArray := prog_1_method_40_code
def yX5_from : MethodName := ⟨RX5, "from", "(I)I"⟩
abbrev cX5_status : ByteArray := prog_1_method_41_code
def yX5_status : MethodName := ⟨RX5, "status", "(I)I"⟩
abbrev cX5_count : ByteArray := prog_1_method_42_code
def yX5_count : MethodName := ⟨RX5, "count", "(I)I"⟩
abbrev cX5_digest : ByteArray := prog_1_method_43_code
def yX5_digest : MethodName := ⟨RX5, "digest", "()J"⟩
abbrev cX5_refuse : ByteArray := prog_1_method_44_code
def yX5_refuse : MethodName := ⟨RX5, "refuse", "(I)I"⟩
abbrev cX5_refuseAs : ByteArray := prog_1_method_45_code
def yX5_refuseAs : MethodName := ⟨RX5, "refuseAs", "(I)I"⟩
abbrev cX5_within : ByteArray := prog_1_method_46_code
def yX5_within : MethodName := ⟨RX5, "within", "(III)Z"⟩
abbrev cX5_isKind : ByteArray := prog_1_method_47_code
def yX5_isKind : MethodName := ⟨RX5, "isKind", "(I)Z"⟩
abbrev cX5_isTrait : ByteArray := prog_1_method_48_code
def yX5_isTrait : MethodName := ⟨RX5, "isTrait", "(I)Z"⟩
abbrev cX5_isAhead : ByteArray := prog_1_method_49_code
def yX5_isAhead : MethodName := ⟨RX5, "isAhead", "(I)Z"⟩
abbrev cX5_isSeat : ByteArray := prog_1_method_50_code
def yX5_isSeat : MethodName := ⟨RX5, "isSeat", "(I)Z"⟩
abbrev cX5_isSeatOrNone : ByteArray := prog_1_method_51_code
def yX5_isSeatOrNone : MethodName := ⟨RX5, "isSeatOrNone", "(I)Z"⟩
abbrev cX5_isCanon : ByteArray := prog_1_method_52_code
def yX5_isCanon : MethodName := ⟨RX5, "isCanon", "(I)Z"⟩
abbrev cX5_lookAhead : ByteArray := prog_1_method_53_code
def yX5_lookAhead : MethodName := ⟨RX5, "lookAhead", "(I)V"⟩
abbrev cX5_yearsUntil : ByteArray := prog_1_method_54_code
def yX5_yearsUntil : MethodName := ⟨RX5, "yearsUntil", "(IIII)I"⟩
abbrev cX5_write : ByteArray := prog_1_method_55_code
def yX5_write : MethodName := ⟨RX5, "write", "(LSeatScene$Rows;IIIII)I"⟩
abbrev cX5_seatKinds : ByteArray := prog_1_method_56_code
def yX5_seatKinds : MethodName := ⟨RX5, "seatKinds", "(I)I"⟩
abbrev cX5_canonKinds : ByteArray := prog_1_method_57_code
def yX5_canonKinds : MethodName := ⟨RX5, "canonKinds", "(I)I"⟩
abbrev cX5_mostAlike : ByteArray := prog_1_method_58_code
def yX5_mostAlike : MethodName := ⟨RX5, "mostAlike", "(I)I"⟩
abbrev cX5_isContent : ByteArray := prog_1_method_59_code
def yX5_isContent : MethodName := ⟨RX5, "isContent", "([III)Z"⟩
abbrev cX5_setFraction : ByteArray := prog_1_method_60_code
def yX5_setFraction : MethodName := ⟨RX5, "setFraction", "(JJ)V"⟩
abbrev cX5_power : ByteArray := prog_1_method_61_code
def yX5_power : MethodName := ⟨RX5, "power", "(JI)J"⟩
abbrev cX5_choices : ByteArray := prog_1_method_62_code
def yX5_choices : MethodName := ⟨RX5, "choices", "(II)J"⟩
abbrev cX5_howMany : ByteArray := prog_1_method_63_code
def yX5_howMany : MethodName := ⟨RX5, "howMany", "(I)I"⟩
abbrev cX5_sum : ByteArray := prog_1_method_64_code
def yX5_sum : MethodName := ⟨RX5, "sum", "([I)I"⟩
abbrev cX5_fillOrder : ByteArray := prog_1_method_65_code
def yX5_fillOrder : MethodName := ⟨RX5, "fillOrder", "(LSeatScene$Chapter;[III)Z"⟩
abbrev cX5_given : ByteArray := prog_1_method_66_code
def yX5_given : MethodName := ⟨RX5, "given", "(IIII)I"⟩
abbrev cX5_worn : ByteArray := prog_1_method_67_code
def yX5_worn : MethodName := ⟨RX5, "worn", "(II)I"⟩
abbrev cX5_accepted : ByteArray := prog_1_method_68_code
def yX5_accepted : MethodName := ⟨RX5, "accepted", "(III)I"⟩
abbrev cX5_heavy : ByteArray := prog_1_method_69_code
def yX5_heavy : MethodName := ⟨RX5, "heavy", "(II)I"⟩
def RX6 : String := "SeatSceneModel"
def TX6 : u_T := fun k => match k with
  | 0 => ("SeatSceneModel", "now", "[I", true)
  | 1 => ("SeatSceneModel", "read", "[I", true)
  | 2 => ("SeatSceneModel", "aside", "[I", true)
  | 3 => ("SeatSceneModel", "images", "[I", true)
  | 4 => ("SeatSceneModel", "kept", "[Z", true)
  | 5 => ("SeatSceneModel", "text", "[I", true)
  | 6 => ("SeatSceneModel", "size", "I", false)
  | 7 => ("SeatSceneModel", "above", "J", false)
  | 8 => ("SeatSceneModel", "below", "J", false)
  | 9 => ("SeatSceneModel", "refusals", "[I", true)
  | 10 => ("SeatSceneModel", "at", "I", false)
  | 11 => ("SeatSceneModel", "begin", "I", false)
  | 12 => ("SeatSceneModel", "token", "I", false)
  | 13 => ("SeatSceneModel", "letters", "I", false)
  | 14 => ("SeatSceneModel", "value", "I", false)
  | 15 => ("SeatSceneModel", "isLong", "Z", false)
  | 16 => ("SeatSceneModel", "seventh", "I", false)
  | 17 => ("SeatSceneModel", "many", "I", false)
  | 18 => ("SeatSceneModel", "fulfil", "[I", true)
  | 19 => ("SeatSceneModel", "row", "[I", true)
  | 20 => ("SeatSceneModel", "best", "[I", true)
  | 21 => ("SeatSceneModel", "alike", "[I", true)
  | 22 => ("SeatSceneModel", "most", "I", false)
  | _ => ("SeatSceneModel", "digested", "J", false)
def tyX6 : Nat → FieldType := fun k => match k with
  | 0 => .array .int
  | 1 => .array .int
  | 2 => .array .int
  | 3 => .array .int
  | 4 => .array .boolean
  | 5 => .array .int
  | 6 => .int
  | 7 => .long
  | 8 => .long
  | 9 => .array .int
  | 10 => .int
  | 11 => .int
  | 12 => .int
  | 13 => .int
  | 14 => .int
  | 15 => .boolean
  | 16 => .int
  | 17 => .int
  | 18 => .array .int
  | 19 => .array .int
  | 20 => .array .int
  | 21 => .array .int
  | 22 => .int
  | _ => .long
abbrev wsX60 : List Cond := u_ws RX6 TX6 24
theorem nmX6 : ∀ a, a < 24 → ∀ b, b < 24 → a ≠ b → (TX6 a).2.1 ≠ (TX6 b).2.1 := by decide +kernel
theorem tyX6_ok : ∀ k, k < 24 → parseFieldDescriptor (TX6 k).2.2.1 = some (tyX6 k) := by decide +kernel
abbrev cX6_init : ByteArray := prog_8_method_1_code
def yX6_init : MethodName := ⟨RX6, "<init>", "()V"⟩
abbrev cX6_in : ByteArray := prog_8_method_3_code
def yX6_in : MethodName := ⟨RX6, "in", "(JJJ)Z"⟩
abbrev cX6_has : ByteArray := prog_8_method_4_code
def yX6_has : MethodName := ⟨RX6, "has", "(II)Z"⟩
abbrev cX6_copies : ByteArray := prog_8_method_5_code
def yX6_copies : MethodName := ⟨RX6, "copies", "([II[III)V"⟩
abbrev cX6_refused : ByteArray := prog_8_method_6_code
def yX6_refused : MethodName := ⟨RX6, "refused", "(II)I"⟩
abbrev cX6_bad : ByteArray := prog_8_method_7_code
def yX6_bad : MethodName := ⟨RX6, "bad", "()I"⟩
abbrev cX6_badTen : ByteArray := prog_8_method_8_code
def yX6_badTen : MethodName := ⟨RX6, "badTen", "()I"⟩
abbrev cX6_empties : ByteArray := prog_8_method_9_code
def yX6_empties : MethodName := ⟨RX6, "empties", "([I)V"⟩
abbrev cX6_gives : ByteArray := prog_8_method_10_code
def yX6_gives : MethodName := ⟨RX6, "gives", "(IIII)I"⟩
abbrev cX6_worn : ByteArray := prog_8_method_11_code
def yX6_worn : MethodName := ⟨RX6, "worn", "(II)I"⟩
abbrev cX6_takesOf : ByteArray := prog_8_method_12_code
def yX6_takesOf : MethodName := ⟨RX6, "takesOf", "(III)I"⟩
abbrev cX6_heavy : ByteArray := prog_8_method_13_code
def yX6_heavy : MethodName := ⟨RX6, "heavy", "(II)I"⟩
abbrev cX6_takesOn : ByteArray := prog_8_method_14_code
def yX6_takesOn : MethodName := ⟨RX6, "takesOn", "([III)I"⟩
abbrev cX6_oneTakes : ByteArray := prog_8_method_15_code
def yX6_oneTakes : MethodName := ⟨RX6, "oneTakes", "([II)V"⟩
abbrev cX6_yearGoes : ByteArray := prog_8_method_16_code
def yX6_yearGoes : MethodName := ⟨RX6, "yearGoes", "([I)V"⟩
abbrev cX6_does : ByteArray := prog_8_method_17_code
def yX6_does : MethodName := ⟨RX6, "does", "([II)I"⟩
abbrev cX6_whoDo : ByteArray := prog_8_method_18_code
def yX6_whoDo : MethodName := ⟨RX6, "whoDo", "([I)I"⟩
abbrev cX6_whoOn : ByteArray := prog_8_method_19_code
def yX6_whoOn : MethodName := ⟨RX6, "whoOn", "([II)I"⟩
abbrev cX6_remember : ByteArray := prog_8_method_20_code
def yX6_remember : MethodName := ⟨RX6, "remember", "()V"⟩
abbrev cX6_layAside : ByteArray := prog_8_method_21_code
def yX6_layAside : MethodName := ⟨RX6, "layAside", "()V"⟩
abbrev cX6_isSeat : ByteArray := prog_8_method_22_code
def yX6_isSeat : MethodName := ⟨RX6, "isSeat", "(I)Z"⟩
abbrev cX6_isCanon : ByteArray := prog_8_method_23_code
def yX6_isCanon : MethodName := ⟨RX6, "isCanon", "(I)Z"⟩
abbrev cX6_isTrait : ByteArray := prog_8_method_24_code
def yX6_isTrait : MethodName := ⟨RX6, "isTrait", "(I)Z"⟩
abbrev cX6_chapter : ByteArray := prog_8_method_25_code
def yX6_chapter : MethodName := ⟨RX6, "chapter", "()I"⟩
abbrev cX6_seat : ByteArray := prog_8_method_26_code
def yX6_seat : MethodName := ⟨RX6, "seat", "(III)I"⟩
abbrev cX6_canon : ByteArray := prog_8_method_27_code
def yX6_canon : MethodName := ⟨RX6, "canon", "(II)I"⟩
abbrev cX6_type : ByteArray := prog_8_method_28_code
def yX6_type : MethodName := ⟨RX6, "type", "(I)I"⟩
abbrev cX6_clear : ByteArray := prog_8_method_29_code
def yX6_clear : MethodName := ⟨RX6, "clear", "()I"⟩
abbrev cX6_isLetter : ByteArray := prog_8_method_30_code
def yX6_isLetter : MethodName := ⟨RX6, "isLetter", "()Z"⟩
abbrev cX6_isFigure : ByteArray := prog_8_method_31_code
def yX6_isFigure : MethodName := ⟨RX6, "isFigure", "()Z"⟩
abbrev cX6_step : ByteArray := prog_8_method_32_code
def yX6_step : MethodName := ⟨RX6, "step", "()V"⟩
abbrev cX6_readsLetters : ByteArray := prog_8_method_33_code
def yX6_readsLetters : MethodName := ⟨RX6, "readsLetters", "()V"⟩
abbrev cX6_isWord : ByteArray := prog_8_method_34_code
def yX6_isWord : MethodName := ⟨RX6, "isWord", "(II)Z"⟩
abbrev cX6_number : ByteArray := prog_8_method_35_code
def yX6_number : MethodName := ⟨RX6, "number", "(II)Z"⟩
abbrev cX6_readsSeat : ByteArray := prog_8_method_36_code
def yX6_readsSeat : MethodName := ⟨RX6, "readsSeat", "()Z"⟩
abbrev cX6_readsCanon : ByteArray := prog_8_method_37_code
def yX6_readsCanon : MethodName := ⟨RX6, "readsCanon", "()Z"⟩
abbrev cX6_readsSitting : ByteArray := prog_8_method_38_code
def yX6_readsSitting : MethodName := ⟨RX6, "readsSitting", "()Z"⟩
abbrev cX6_readsYears : ByteArray := prog_8_method_39_code
def yX6_readsYears : MethodName := ⟨RX6, "readsYears", "()Z"⟩
abbrev cX6_swapsRows : ByteArray := prog_8_method_40_code
def yX6_swapsRows : MethodName := ⟨RX6, "swapsRows", "()V"⟩
abbrev cX6_readsItem : ByteArray := prog_8_method_41_code
def yX6_readsItem : MethodName := ⟨RX6, "readsItem", "(I)Z"⟩
abbrev cX6_read : ByteArray := prog_8_method_42_code
def yX6_read : MethodName := ⟨RX6, "read", "()I"⟩
abbrev cX6_sits : ByteArray := prog_8_method_43_code
def yX6_sits : MethodName := ⟨RX6, "sits", "(II)I"⟩
abbrev cX6_swaps : ByteArray := prog_8_method_44_code
def yX6_swaps : MethodName := ⟨RX6, "swaps", "([III)V"⟩
abbrev cX6_swap : ByteArray := prog_8_method_45_code
def yX6_swap : MethodName := ⟨RX6, "swap", "(II)I"⟩
abbrev cX6_year : ByteArray := prog_8_method_46_code
def yX6_year : MethodName := ⟨RX6, "year", "(I)I"⟩
abbrev cX6_undo : ByteArray := prog_8_method_47_code
def yX6_undo : MethodName := ⟨RX6, "undo", "()I"⟩
abbrev cX6_of : ByteArray := prog_8_method_48_code
def yX6_of : MethodName := ⟨RX6, "of", "(II)I"⟩
abbrev cX6_about : ByteArray := prog_8_method_49_code
def yX6_about : MethodName := ⟨RX6, "about", "(II)I"⟩
abbrev cX6_taken : ByteArray := prog_8_method_50_code
def yX6_taken : MethodName := ⟨RX6, "taken", "(II)I"⟩
abbrev cX6_takes : ByteArray := prog_8_method_51_code
def yX6_takes : MethodName := ⟨RX6, "takes", "(II)I"⟩
abbrev cX6_layYears : ByteArray := prog_8_method_52_code
def yX6_layYears : MethodName := ⟨RX6, "layYears", "(I)V"⟩
abbrev cX6_then : ByteArray := prog_8_method_53_code
def yX6_then : MethodName := ⟨RX6, "then", "(III)I"⟩
abbrev cX6_depth : ByteArray := prog_8_method_54_code
def yX6_depth : MethodName := ⟨RX6, "depth", "(II)I"⟩
abbrev cX6_untilTaken : ByteArray := prog_8_method_55_code
def yX6_untilTaken : MethodName := ⟨RX6, "untilTaken", "(III)I"⟩
abbrev cX6_when : ByteArray := prog_8_method_56_code
def yX6_when : MethodName := ⟨RX6, "when", "(III)I"⟩
abbrev cX6_first : ByteArray := prog_8_method_57_code
def yX6_first : MethodName := ⟨RX6, "first", "(II)I"⟩
abbrev cX6_blank : ByteArray := prog_8_method_58_code
def yX6_blank : MethodName := ⟨RX6, "blank", "(I)I"⟩
abbrev cX6_place : ByteArray := prog_8_method_59_code
def yX6_place : MethodName := ⟨RX6, "place", "(IIII)I"⟩
abbrev cX6_wish : ByteArray := prog_8_method_60_code
def yX6_wish : MethodName := ⟨RX6, "wish", "(III)I"⟩
abbrev cX6_fulfilled : ByteArray := prog_8_method_61_code
def yX6_fulfilled : MethodName := ⟨RX6, "fulfilled", "(III)I"⟩
abbrev cX6_aloneGoes : ByteArray := prog_8_method_62_code
def yX6_aloneGoes : MethodName := ⟨RX6, "aloneGoes", "(I)V"⟩
abbrev cX6_nextRow : ByteArray := prog_8_method_63_code
def yX6_nextRow : MethodName := ⟨RX6, "nextRow", "()Z"⟩
abbrev cX6_isBefore : ByteArray := prog_8_method_64_code
def yX6_isBefore : MethodName := ⟨RX6, "isBefore", "(I)Z"⟩
abbrev cX6_laysSeating : ByteArray := prog_8_method_65_code
def yX6_laysSeating : MethodName := ⟨RX6, "laysSeating", "(I)I"⟩
abbrev cX6_seating : ByteArray := prog_8_method_66_code
def yX6_seating : MethodName := ⟨RX6, "seating", "(II)I"⟩
abbrev cX6_quarrels : ByteArray := prog_8_method_67_code
def yX6_quarrels : MethodName := ⟨RX6, "quarrels", "()I"⟩
abbrev cX6_nextOrder : ByteArray := prog_8_method_68_code
def yX6_nextOrder : MethodName := ⟨RX6, "nextOrder", "(I)Z"⟩
abbrev cX6_row : ByteArray := prog_8_method_69_code
def yX6_row : MethodName := ⟨RX6, "row", "(I)I"⟩
abbrev cX6_blur : ByteArray := prog_8_method_70_code
def yX6_blur : MethodName := ⟨RX6, "blur", "(IIII)I"⟩
abbrev cX6_where : ByteArray := prog_8_method_71_code
def yX6_where : MethodName := ⟨RX6, "where", "(III)I"⟩
abbrev cX6_note : ByteArray := prog_8_method_72_code
def yX6_note : MethodName := ⟨RX6, "note", "(IIIII)I"⟩
abbrev cX6_mark : ByteArray := prog_8_method_73_code
def yX6_mark : MethodName := ⟨RX6, "mark", "(IIII)I"⟩
abbrev cX6_forget : ByteArray := prog_8_method_74_code
def yX6_forget : MethodName := ⟨RX6, "forget", "(I)I"⟩
abbrev cX6_kindsOf : ByteArray := prog_8_method_75_code
def yX6_kindsOf : MethodName := ⟨RX6, "kindsOf", "(I)I"⟩
abbrev cX6_is : ByteArray := prog_8_method_76_code
def yX6_is : MethodName := ⟨RX6, "is", "(I)I"⟩
abbrev cX6_counts : ByteArray := prog_8_method_77_code
def yX6_counts : MethodName := ⟨RX6, "counts", "(I)V"⟩
abbrev cX6_countsNone : ByteArray := prog_8_method_78_code
def yX6_countsNone : MethodName := ⟨RX6, "countsNone", "()V"⟩
abbrev cX6_look : ByteArray := prog_8_method_79_code
def yX6_look : MethodName := ⟨RX6, "look", "(I)I"⟩
abbrev cX6_kindsOfOne : ByteArray := prog_8_method_80_code
def yX6_kindsOfOne : MethodName := ⟨RX6, "kindsOfOne", "(I)I"⟩
abbrev cX6_what : ByteArray := prog_8_method_81_code
def yX6_what : MethodName := ⟨RX6, "what", "(I)I"⟩
abbrev cX6_tries : ByteArray := prog_8_method_82_code
def yX6_tries : MethodName := ⟨RX6, "tries", "(I)I"⟩
abbrev cX6_stays : ByteArray := prog_8_method_83_code
def yX6_stays : MethodName := ⟨RX6, "stays", "(III)Z"⟩
abbrev cX6_two : ByteArray := prog_8_method_84_code
def yX6_two : MethodName := ⟨RX6, "two", "(III)I"⟩
abbrev cX6_fraction : ByteArray := prog_8_method_85_code
def yX6_fraction : MethodName := ⟨RX6, "fraction", "(JJ)V"⟩
abbrev cX6_left : ByteArray := prog_8_method_86_code
def yX6_left : MethodName := ⟨RX6, "left", "(III)I"⟩
abbrev cX6_years : ByteArray := prog_8_method_87_code
def yX6_years : MethodName := ⟨RX6, "years", "(II)I"⟩
abbrev cX6_part : ByteArray := prog_8_method_88_code
def yX6_part : MethodName := ⟨RX6, "part", "(I)J"⟩
abbrev cX6_image : ByteArray := prog_8_method_89_code
def yX6_image : MethodName := ⟨RX6, "image", "(I)I"⟩
abbrev cX6_from : ByteArray := prog_8_method_90_code
def yX6_from : MethodName := ⟨RX6, "from", "(I)I"⟩
abbrev cX6_status : ByteArray := prog_8_method_91_code
def yX6_status : MethodName := ⟨RX6, "status", "(I)I"⟩
abbrev cX6_sum : ByteArray := prog_8_method_92_code
def yX6_sum : MethodName := ⟨RX6, "sum", "(II)I"⟩
abbrev cX6_whoSit : ByteArray := prog_8_method_93_code
def yX6_whoSit : MethodName := ⟨RX6, "whoSit", "()I"⟩
abbrev cX6_counted : ByteArray := prog_8_method_94_code
def yX6_counted : MethodName := ⟨RX6, "counted", "(I)I"⟩
abbrev cX6_count : ByteArray := prog_8_method_95_code
def yX6_count : MethodName := ⟨RX6, "count", "(I)I"⟩
abbrev cX6_digests : ByteArray := prog_8_method_96_code
def yX6_digests : MethodName := ⟨RX6, "digests", "(II)V"⟩
abbrev cX6_digest : ByteArray := prog_8_method_97_code
def yX6_digest : MethodName := ⟨RX6, "digest", "()J"⟩
def RJ9 : String := "java/lang/Math"
abbrev cJ9_max_7cf53 : ByteArray := prog_9_method_65_code
def yJ9_max_7cf53 : MethodName := ⟨RJ9, "max", "(II)I"⟩
abbrev cJ9_min_7cf53 : ByteArray := prog_9_method_69_code
def yJ9_min_7cf53 : MethodName := ⟨RJ9, "min", "(II)I"⟩
def RJ0 : String := "java/lang/String"
abbrev cJ0_length_8abf5 : ByteArray := prog_10_method_54_code
def yJ0_length_8abf5 : MethodName := ⟨RJ0, "length", "()I"⟩
abbrev cJ0_charAt_5068e : ByteArray := prog_10_method_56_code
def yJ0_charAt_5068e : MethodName := ⟨RJ0, "charAt", "(I)C"⟩
abbrev cJ0_coder_7d493 : ByteArray := prog_10_method_152_code
def yJ0_coder_7d493 : MethodName := ⟨RJ0, "coder", "()B"⟩
abbrev cJ0_isLatin1_aae02 : ByteArray := prog_10_method_154_code
def yJ0_isLatin1_aae02 : MethodName := ⟨RJ0, "isLatin1", "()Z"⟩
abbrev cJ0_checkIndex_df160 : ByteArray := prog_10_method_155_code
def yJ0_checkIndex_df160 : MethodName := ⟨RJ0, "checkIndex", "(II)V"⟩
def RJ1 : String := "java/lang/StringLatin1"
abbrev cJ1_charAt_3b067 : ByteArray := prog_11_method_2_code
def yJ1_charAt_3b067 : MethodName := ⟨RJ1, "charAt", "([BI)C"⟩
def RJ2 : String := "java/lang/StringUTF16"
abbrev cJ2_getChar_3b067 : ByteArray := prog_12_method_5_code
def yJ2_getChar_3b067 : MethodName := ⟨RJ2, "getChar", "([BI)C"⟩
abbrev cJ2_length_9d52b : ByteArray := prog_12_method_6_code
def yJ2_length_9d52b : MethodName := ⟨RJ2, "length", "([B)I"⟩
abbrev cJ2_charAt_3b067 : ByteArray := prog_12_method_83_code
def yJ2_charAt_3b067 : MethodName := ⟨RJ2, "charAt", "([BI)C"⟩
abbrev cJ2_checkIndex_2214a : ByteArray := prog_12_method_91_code
def yJ2_checkIndex_2214a : MethodName := ⟨RJ2, "checkIndex", "(I[B)V"⟩
def RJ10 : String := "java/lang/System"
def RJ7 : String := "java/util/Arrays"
abbrev cJ7_fill_53178 : ByteArray := prog_14_method_103_code
def yJ7_fill_53178 : MethodName := ⟨RJ7, "fill", "([II)V"⟩
def RJ3 : String := "jdk/internal/util/Preconditions"
abbrev cJ3_checkIndex_8e157 : ByteArray := prog_15_method_11_code
def yJ3_checkIndex_8e157 : MethodName := ⟨RJ3, "checkIndex", "(IILjava/util/function/BiFunction;)I"⟩
def RL : String := "SeatSceneLaw"
abbrev cL_law : ByteArray := code
abbrev vwCl : List vw_C := [(RX0, TX0, 13), (RX1, TX1, 3), (RX2, TX2, 4), (RX3, TX3, 7), (RX4, TX4, 8), (RX5, TX5, 14), (RX6, TX6, 24)]
