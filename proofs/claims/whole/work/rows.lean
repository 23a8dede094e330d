section
-- ===== PART A: goes FIRST, ahead of the names: the tables' words, and 'selects' of the private methods out of them =====
/-- a private method of a class that the tables say can be made, by its rows of tables_1 -/
def lw_okq (q : MethodName × Nat) : Prop := (q.1.cls ≠ "java/lang/invoke/MethodHandle" ∧ q.1.cls ≠ "java/lang/invoke/VarHandle") ∧ Cond.instantiable q.1.cls q.2 ∈ tables_1 ∧ Cond.privateMethod q.1 ∈ tables_1 ∧ Cond.instanceMethod q.1 ∈ tables_1
theorem lw_p0 : lw_okq (⟨"ShortFrames$Squeezer", "contextOf", "(IJ)I"⟩, 1) := ⟨⟨by decide +kernel, by decide +kernel⟩, List.mem_of_getElem? (i := 44) (by decide +kernel), List.mem_of_getElem? (i := 404) (by decide +kernel), List.mem_of_getElem? (i := 405) (by decide +kernel)⟩
theorem lw_p1 : lw_okq (⟨"ShortFrames$Unfolder", "readsForm", "(LShortFrames$Row;)Z"⟩, 10) := ⟨⟨by decide +kernel, by decide +kernel⟩, List.mem_of_getElem? (i := 54) (by decide +kernel), List.mem_of_getElem? (i := 447) (by decide +kernel), List.mem_of_getElem? (i := 448) (by decide +kernel)⟩
theorem lw_p2 : lw_okq (⟨"ShortFrames$Unfolder", "has", "(LShortFrames$Row;I)Z"⟩, 10) := ⟨⟨by decide +kernel, by decide +kernel⟩, List.mem_of_getElem? (i := 54) (by decide +kernel), List.mem_of_getElem? (i := 451) (by decide +kernel), List.mem_of_getElem? (i := 452) (by decide +kernel)⟩
theorem lw_p3 : lw_okq (⟨"ShortFrames$Unfolder", "fails", "(II)Z"⟩, 10) := ⟨⟨by decide +kernel, by decide +kernel⟩, List.mem_of_getElem? (i := 54) (by decide +kernel), List.mem_of_getElem? (i := 456) (by decide +kernel), List.mem_of_getElem? (i := 457) (by decide +kernel)⟩
theorem lw_p4 : lw_okq (⟨"ShortFrames$Unfolder", "next", "(LShortFrames$Row;)I"⟩, 10) := ⟨⟨by decide +kernel, by decide +kernel⟩, List.mem_of_getElem? (i := 54) (by decide +kernel), List.mem_of_getElem? (i := 461) (by decide +kernel), List.mem_of_getElem? (i := 462) (by decide +kernel)⟩
theorem lw_p5 : lw_okq (⟨"ShortFrames$Unfolder", "goal", "()I"⟩, 10) := ⟨⟨by decide +kernel, by decide +kernel⟩, List.mem_of_getElem? (i := 54) (by decide +kernel), List.mem_of_getElem? (i := 465) (by decide +kernel), List.mem_of_getElem? (i := 466) (by decide +kernel)⟩
theorem lw_p6 : lw_okq (⟨"ShortFrames$Unfolder", "readsContexts", "(LShortFrames$Row;)Z"⟩, 10) := ⟨⟨by decide +kernel, by decide +kernel⟩, List.mem_of_getElem? (i := 54) (by decide +kernel), List.mem_of_getElem? (i := 469) (by decide +kernel), List.mem_of_getElem? (i := 470) (by decide +kernel)⟩
theorem lw_p7 : lw_okq (⟨"ShortFrames$Unfolder", "source", "()I"⟩, 10) := ⟨⟨by decide +kernel, by decide +kernel⟩, List.mem_of_getElem? (i := 54) (by decide +kernel), List.mem_of_getElem? (i := 473) (by decide +kernel), List.mem_of_getElem? (i := 474) (by decide +kernel)⟩
theorem lw_p8 : lw_okq (⟨"ShortFrames$Unfolder", "readsTraffic", "(LShortFrames$Row;)Z"⟩, 10) := ⟨⟨by decide +kernel, by decide +kernel⟩, List.mem_of_getElem? (i := 54) (by decide +kernel), List.mem_of_getElem? (i := 479) (by decide +kernel), List.mem_of_getElem? (i := 480) (by decide +kernel)⟩
theorem lw_p9 : lw_okq (⟨"ShortFrames$Unfolder", "traffic", "()I"⟩, 10) := ⟨⟨by decide +kernel, by decide +kernel⟩, List.mem_of_getElem? (i := 54) (by decide +kernel), List.mem_of_getElem? (i := 483) (by decide +kernel), List.mem_of_getElem? (i := 484) (by decide +kernel)⟩
theorem lw_p10 : lw_okq (⟨"ShortFrames$Unfolder", "readsKind", "(LShortFrames$Row;)Z"⟩, 10) := ⟨⟨by decide +kernel, by decide +kernel⟩, List.mem_of_getElem? (i := 54) (by decide +kernel), List.mem_of_getElem? (i := 494) (by decide +kernel), List.mem_of_getElem? (i := 495) (by decide +kernel)⟩
theorem lw_p11 : lw_okq (⟨"ShortFrames$Unfolder", "ports", "()Z"⟩, 10) := ⟨⟨by decide +kernel, by decide +kernel⟩, List.mem_of_getElem? (i := 54) (by decide +kernel), List.mem_of_getElem? (i := 498) (by decide +kernel), List.mem_of_getElem? (i := 499) (by decide +kernel)⟩
theorem lw_p12 : lw_okq (⟨"ShortFrames$Unfolder", "readsHops", "(LShortFrames$Row;)Z"⟩, 10) := ⟨⟨by decide +kernel, by decide +kernel⟩, List.mem_of_getElem? (i := 54) (by decide +kernel), List.mem_of_getElem? (i := 503) (by decide +kernel), List.mem_of_getElem? (i := 504) (by decide +kernel)⟩
theorem lw_p13 : lw_okq (⟨"ShortFrames$Unfolder", "readsAddress", "(LShortFrames$Row;II)Z"⟩, 10) := ⟨⟨by decide +kernel, by decide +kernel⟩, List.mem_of_getElem? (i := 54) (by decide +kernel), List.mem_of_getElem? (i := 507) (by decide +kernel), List.mem_of_getElem? (i := 508) (by decide +kernel)⟩
theorem lw_p14 : lw_okq (⟨"ShortFrames$Unfolder", "firstEight", "(II)J"⟩, 10) := ⟨⟨by decide +kernel, by decide +kernel⟩, List.mem_of_getElem? (i := 54) (by decide +kernel), List.mem_of_getElem? (i := 514) (by decide +kernel), List.mem_of_getElem? (i := 515) (by decide +kernel)⟩
theorem lw_p15 : lw_okq (⟨"ShortFrames$Unfolder", "lastEight", "(IIJ)J"⟩, 10) := ⟨⟨by decide +kernel, by decide +kernel⟩, List.mem_of_getElem? (i := 54) (by decide +kernel), List.mem_of_getElem? (i := 524) (by decide +kernel), List.mem_of_getElem? (i := 525) (by decide +kernel)⟩
def lw_privs_1 : List (MethodName × Nat) := [(⟨"ShortFrames$Squeezer", "contextOf", "(IJ)I"⟩, 1), (⟨"ShortFrames$Unfolder", "readsForm", "(LShortFrames$Row;)Z"⟩, 10), (⟨"ShortFrames$Unfolder", "has", "(LShortFrames$Row;I)Z"⟩, 10), (⟨"ShortFrames$Unfolder", "fails", "(II)Z"⟩, 10), (⟨"ShortFrames$Unfolder", "next", "(LShortFrames$Row;)I"⟩, 10), (⟨"ShortFrames$Unfolder", "goal", "()I"⟩, 10), (⟨"ShortFrames$Unfolder", "readsContexts", "(LShortFrames$Row;)Z"⟩, 10), (⟨"ShortFrames$Unfolder", "source", "()I"⟩, 10), (⟨"ShortFrames$Unfolder", "readsTraffic", "(LShortFrames$Row;)Z"⟩, 10), (⟨"ShortFrames$Unfolder", "traffic", "()I"⟩, 10), (⟨"ShortFrames$Unfolder", "readsKind", "(LShortFrames$Row;)Z"⟩, 10), (⟨"ShortFrames$Unfolder", "ports", "()Z"⟩, 10), (⟨"ShortFrames$Unfolder", "readsHops", "(LShortFrames$Row;)Z"⟩, 10), (⟨"ShortFrames$Unfolder", "readsAddress", "(LShortFrames$Row;II)Z"⟩, 10), (⟨"ShortFrames$Unfolder", "firstEight", "(II)J"⟩, 10), (⟨"ShortFrames$Unfolder", "lastEight", "(IIJ)J"⟩, 10)]
theorem lw_r1 : ∀ q ∈ lw_privs_1, lw_okq q := List.forall_mem_cons.mpr ⟨lw_p0, List.forall_mem_cons.mpr ⟨lw_p1, List.forall_mem_cons.mpr ⟨lw_p2, List.forall_mem_cons.mpr ⟨lw_p3, List.forall_mem_cons.mpr ⟨lw_p4, List.forall_mem_cons.mpr ⟨lw_p5, List.forall_mem_cons.mpr ⟨lw_p6, List.forall_mem_cons.mpr ⟨lw_p7, List.forall_mem_cons.mpr ⟨lw_p8, List.forall_mem_cons.mpr ⟨lw_p9, List.forall_mem_cons.mpr ⟨lw_p10, List.forall_mem_cons.mpr ⟨lw_p11, List.forall_mem_cons.mpr ⟨lw_p12, List.forall_mem_cons.mpr ⟨lw_p13, List.forall_mem_cons.mpr ⟨lw_p14, List.forall_mem_cons.mpr ⟨lw_p15, fun _ h => absurd h List.not_mem_nil⟩⟩⟩⟩⟩⟩⟩⟩⟩⟩⟩⟩⟩⟩⟩⟩
theorem lw_p16 : lw_okq (⟨"ShortFrames$Unfolder", "readsPorts", "(LShortFrames$Row;)Z"⟩, 10) := ⟨⟨by decide +kernel, by decide +kernel⟩, List.mem_of_getElem? (i := 54) (by decide +kernel), List.mem_of_getElem? (i := 530) (by decide +kernel), List.mem_of_getElem? (i := 531) (by decide +kernel)⟩
theorem lw_p17 : lw_okq (⟨"ShortFrames$Unfolder", "readsRest", "(LShortFrames$Row;I)Z"⟩, 10) := ⟨⟨by decide +kernel, by decide +kernel⟩, List.mem_of_getElem? (i := 54) (by decide +kernel), List.mem_of_getElem? (i := 544) (by decide +kernel), List.mem_of_getElem? (i := 545) (by decide +kernel)⟩
theorem lw_p18 : lw_okq (⟨"ShortFrames$Cutter", "begin", "(III)V"⟩, 3) := ⟨⟨by decide +kernel, by decide +kernel⟩, List.mem_of_getElem? (i := 123) (by decide +kernel), List.mem_of_getElem? (i := 589) (by decide +kernel), List.mem_of_getElem? (i := 590) (by decide +kernel)⟩
theorem lw_p19 : lw_okq (⟨"ShortFrames$Cutter", "divideRest", "(LShortFrames$Row;IIILShortFrames$Frames;)I"⟩, 3) := ⟨⟨by decide +kernel, by decide +kernel⟩, List.mem_of_getElem? (i := 123) (by decide +kernel), List.mem_of_getElem? (i := 597) (by decide +kernel), List.mem_of_getElem? (i := 598) (by decide +kernel)⟩
theorem lw_p20 : lw_okq (⟨"ShortFrames$Receiver", "hearsAll", "(LShortFrames$Row;LShortFrames$Row;)I"⟩, 7) := ⟨⟨by decide +kernel, by decide +kernel⟩, List.mem_of_getElem? (i := 141) (by decide +kernel), List.mem_of_getElem? (i := 633) (by decide +kernel), List.mem_of_getElem? (i := 634) (by decide +kernel)⟩
theorem lw_p21 : lw_okq (⟨"ShortFrames$Receiver", "hearsFirst", "(LShortFrames$Row;LShortFrames$Row;)I"⟩, 7) := ⟨⟨by decide +kernel, by decide +kernel⟩, List.mem_of_getElem? (i := 141) (by decide +kernel), List.mem_of_getElem? (i := 641) (by decide +kernel), List.mem_of_getElem? (i := 642) (by decide +kernel)⟩
theorem lw_p22 : lw_okq (⟨"ShortFrames$Receiver", "hearsPart", "(LShortFrames$Row;ILShortFrames$Row;ILShortFrames$Row;)I"⟩, 7) := ⟨⟨by decide +kernel, by decide +kernel⟩, List.mem_of_getElem? (i := 141) (by decide +kernel), List.mem_of_getElem? (i := 649) (by decide +kernel), List.mem_of_getElem? (i := 650) (by decide +kernel)⟩
theorem lw_p23 : lw_okq (⟨"ShortFrames$Receiver", "dropLateHeaps", "()V"⟩, 7) := ⟨⟨by decide +kernel, by decide +kernel⟩, List.mem_of_getElem? (i := 141) (by decide +kernel), List.mem_of_getElem? (i := 653) (by decide +kernel), List.mem_of_getElem? (i := 654) (by decide +kernel)⟩
theorem lw_p24 : lw_okq (⟨"ShortFrames$Receiver", "indexFor", "(II)I"⟩, 7) := ⟨⟨by decide +kernel, by decide +kernel⟩, List.mem_of_getElem? (i := 141) (by decide +kernel), List.mem_of_getElem? (i := 665) (by decide +kernel), List.mem_of_getElem? (i := 666) (by decide +kernel)⟩
theorem lw_p25 : lw_okq (⟨"ShortFramesModel", "lay", "(I)V"⟩, 46) := ⟨⟨by decide +kernel, by decide +kernel⟩, List.mem_of_getElem? (i := 737) (by decide +kernel), List.mem_of_getElem? (i := 899) (by decide +kernel), List.mem_of_getElem? (i := 900) (by decide +kernel)⟩
theorem lw_p26 : lw_okq (⟨"ShortFramesModel", "layLong", "(J)V"⟩, 46) := ⟨⟨by decide +kernel, by decide +kernel⟩, List.mem_of_getElem? (i := 737) (by decide +kernel), List.mem_of_getElem? (i := 908) (by decide +kernel), List.mem_of_getElem? (i := 909) (by decide +kernel)⟩
theorem lw_p27 : lw_okq (⟨"ShortFramesModel", "isPacket", "()Z"⟩, 46) := ⟨⟨by decide +kernel, by decide +kernel⟩, List.mem_of_getElem? (i := 737) (by decide +kernel), List.mem_of_getElem? (i := 932) (by decide +kernel), List.mem_of_getElem? (i := 933) (by decide +kernel)⟩
theorem lw_p28 : lw_okq (⟨"ShortFramesModel", "squeezeTape", "()V"⟩, 46) := ⟨⟨by decide +kernel, by decide +kernel⟩, List.mem_of_getElem? (i := 737) (by decide +kernel), List.mem_of_getElem? (i := 936) (by decide +kernel), List.mem_of_getElem? (i := 937) (by decide +kernel)⟩
theorem lw_p29 : lw_okq (⟨"ShortFramesModel", "sorts", "()V"⟩, 46) := ⟨⟨by decide +kernel, by decide +kernel⟩, List.mem_of_getElem? (i := 737) (by decide +kernel), List.mem_of_getElem? (i := 940) (by decide +kernel), List.mem_of_getElem? (i := 941) (by decide +kernel)⟩
theorem lw_p30 : lw_okq (⟨"ShortFramesModel", "isPlain", "(I)Z"⟩, 46) := ⟨⟨by decide +kernel, by decide +kernel⟩, List.mem_of_getElem? (i := 737) (by decide +kernel), List.mem_of_getElem? (i := 944) (by decide +kernel), List.mem_of_getElem? (i := 945) (by decide +kernel)⟩
theorem lw_p31 : lw_okq (⟨"ShortFramesModel", "lastsOf", "(II)I"⟩, 46) := ⟨⟨by decide +kernel, by decide +kernel⟩, List.mem_of_getElem? (i := 737) (by decide +kernel), List.mem_of_getElem? (i := 948) (by decide +kernel), List.mem_of_getElem? (i := 949) (by decide +kernel)⟩
def lw_privs_2 : List (MethodName × Nat) := [(⟨"ShortFrames$Unfolder", "readsPorts", "(LShortFrames$Row;)Z"⟩, 10), (⟨"ShortFrames$Unfolder", "readsRest", "(LShortFrames$Row;I)Z"⟩, 10), (⟨"ShortFrames$Cutter", "begin", "(III)V"⟩, 3), (⟨"ShortFrames$Cutter", "divideRest", "(LShortFrames$Row;IIILShortFrames$Frames;)I"⟩, 3), (⟨"ShortFrames$Receiver", "hearsAll", "(LShortFrames$Row;LShortFrames$Row;)I"⟩, 7), (⟨"ShortFrames$Receiver", "hearsFirst", "(LShortFrames$Row;LShortFrames$Row;)I"⟩, 7), (⟨"ShortFrames$Receiver", "hearsPart", "(LShortFrames$Row;ILShortFrames$Row;ILShortFrames$Row;)I"⟩, 7), (⟨"ShortFrames$Receiver", "dropLateHeaps", "()V"⟩, 7), (⟨"ShortFrames$Receiver", "indexFor", "(II)I"⟩, 7), (⟨"ShortFramesModel", "lay", "(I)V"⟩, 46), (⟨"ShortFramesModel", "layLong", "(J)V"⟩, 46), (⟨"ShortFramesModel", "isPacket", "()Z"⟩, 46), (⟨"ShortFramesModel", "squeezeTape", "()V"⟩, 46), (⟨"ShortFramesModel", "sorts", "()V"⟩, 46), (⟨"ShortFramesModel", "isPlain", "(I)Z"⟩, 46), (⟨"ShortFramesModel", "lastsOf", "(II)I"⟩, 46)]
theorem lw_r2 : ∀ q ∈ lw_privs_2, lw_okq q := List.forall_mem_cons.mpr ⟨lw_p16, List.forall_mem_cons.mpr ⟨lw_p17, List.forall_mem_cons.mpr ⟨lw_p18, List.forall_mem_cons.mpr ⟨lw_p19, List.forall_mem_cons.mpr ⟨lw_p20, List.forall_mem_cons.mpr ⟨lw_p21, List.forall_mem_cons.mpr ⟨lw_p22, List.forall_mem_cons.mpr ⟨lw_p23, List.forall_mem_cons.mpr ⟨lw_p24, List.forall_mem_cons.mpr ⟨lw_p25, List.forall_mem_cons.mpr ⟨lw_p26, List.forall_mem_cons.mpr ⟨lw_p27, List.forall_mem_cons.mpr ⟨lw_p28, List.forall_mem_cons.mpr ⟨lw_p29, List.forall_mem_cons.mpr ⟨lw_p30, List.forall_mem_cons.mpr ⟨lw_p31, fun _ h => absurd h List.not_mem_nil⟩⟩⟩⟩⟩⟩⟩⟩⟩⟩⟩⟩⟩⟩⟩⟩
theorem lw_p32 : lw_okq (⟨"ShortFramesModel", "isZero", "(II)Z"⟩, 46) := ⟨⟨by decide +kernel, by decide +kernel⟩, List.mem_of_getElem? (i := 737) (by decide +kernel), List.mem_of_getElem? (i := 952) (by decide +kernel), List.mem_of_getElem? (i := 953) (by decide +kernel)⟩
theorem lw_p33 : lw_okq (⟨"ShortFramesModel", "contextOf", "(I)I"⟩, 46) := ⟨⟨by decide +kernel, by decide +kernel⟩, List.mem_of_getElem? (i := 737) (by decide +kernel), List.mem_of_getElem? (i := 956) (by decide +kernel), List.mem_of_getElem? (i := 957) (by decide +kernel)⟩
theorem lw_p34 : lw_okq (⟨"ShortFramesModel", "groupOf", "()I"⟩, 46) := ⟨⟨by decide +kernel, by decide +kernel⟩, List.mem_of_getElem? (i := 737) (by decide +kernel), List.mem_of_getElem? (i := 960) (by decide +kernel), List.mem_of_getElem? (i := 961) (by decide +kernel)⟩
theorem lw_p35 : lw_okq (⟨"ShortFramesModel", "add", "(I)V"⟩, 46) := ⟨⟨by decide +kernel, by decide +kernel⟩, List.mem_of_getElem? (i := 737) (by decide +kernel), List.mem_of_getElem? (i := 964) (by decide +kernel), List.mem_of_getElem? (i := 965) (by decide +kernel)⟩
theorem lw_p36 : lw_okq (⟨"ShortFramesModel", "addLasts", "(II)V"⟩, 46) := ⟨⟨by decide +kernel, by decide +kernel⟩, List.mem_of_getElem? (i := 737) (by decide +kernel), List.mem_of_getElem? (i := 968) (by decide +kernel), List.mem_of_getElem? (i := 969) (by decide +kernel)⟩
theorem lw_p37 : lw_okq (⟨"ShortFramesModel", "addAll", "(I)V"⟩, 46) := ⟨⟨by decide +kernel, by decide +kernel⟩, List.mem_of_getElem? (i := 737) (by decide +kernel), List.mem_of_getElem? (i := 972) (by decide +kernel), List.mem_of_getElem? (i := 973) (by decide +kernel)⟩
theorem lw_p38 : lw_okq (⟨"ShortFramesModel", "addPorts", "()V"⟩, 46) := ⟨⟨by decide +kernel, by decide +kernel⟩, List.mem_of_getElem? (i := 737) (by decide +kernel), List.mem_of_getElem? (i := 976) (by decide +kernel), List.mem_of_getElem? (i := 977) (by decide +kernel)⟩
theorem lw_p39 : lw_okq (⟨"ShortFramesModel", "rowToOut", "()V"⟩, 46) := ⟨⟨by decide +kernel, by decide +kernel⟩, List.mem_of_getElem? (i := 737) (by decide +kernel), List.mem_of_getElem? (i := 980) (by decide +kernel), List.mem_of_getElem? (i := 981) (by decide +kernel)⟩
theorem lw_p40 : lw_okq (⟨"ShortFramesModel", "unfolds", "(I)Z"⟩, 46) := ⟨⟨by decide +kernel, by decide +kernel⟩, List.mem_of_getElem? (i := 737) (by decide +kernel), List.mem_of_getElem? (i := 988) (by decide +kernel), List.mem_of_getElem? (i := 989) (by decide +kernel)⟩
theorem lw_p41 : lw_okq (⟨"ShortFramesModel", "next", "()I"⟩, 46) := ⟨⟨by decide +kernel, by decide +kernel⟩, List.mem_of_getElem? (i := 737) (by decide +kernel), List.mem_of_getElem? (i := 992) (by decide +kernel), List.mem_of_getElem? (i := 993) (by decide +kernel)⟩
theorem lw_p42 : lw_okq (⟨"ShortFramesModel", "fails", "(II)Z"⟩, 46) := ⟨⟨by decide +kernel, by decide +kernel⟩, List.mem_of_getElem? (i := 737) (by decide +kernel), List.mem_of_getElem? (i := 996) (by decide +kernel), List.mem_of_getElem? (i := 997) (by decide +kernel)⟩
theorem lw_p43 : lw_okq (⟨"ShortFramesModel", "unfoldsFirst", "(I)Z"⟩, 46) := ⟨⟨by decide +kernel, by decide +kernel⟩, List.mem_of_getElem? (i := 737) (by decide +kernel), List.mem_of_getElem? (i := 1000) (by decide +kernel), List.mem_of_getElem? (i := 1001) (by decide +kernel)⟩
theorem lw_p44 : lw_okq (⟨"ShortFramesModel", "set", "(II)V"⟩, 46) := ⟨⟨by decide +kernel, by decide +kernel⟩, List.mem_of_getElem? (i := 737) (by decide +kernel), List.mem_of_getElem? (i := 1004) (by decide +kernel), List.mem_of_getElem? (i := 1005) (by decide +kernel)⟩
theorem lw_p45 : lw_okq (⟨"ShortFramesModel", "unfoldSource", "(I)V"⟩, 46) := ⟨⟨by decide +kernel, by decide +kernel⟩, List.mem_of_getElem? (i := 737) (by decide +kernel), List.mem_of_getElem? (i := 1008) (by decide +kernel), List.mem_of_getElem? (i := 1009) (by decide +kernel)⟩
theorem lw_p46 : lw_okq (⟨"ShortFramesModel", "fromContext", "(II)V"⟩, 46) := ⟨⟨by decide +kernel, by decide +kernel⟩, List.mem_of_getElem? (i := 737) (by decide +kernel), List.mem_of_getElem? (i := 1012) (by decide +kernel), List.mem_of_getElem? (i := 1013) (by decide +kernel)⟩
theorem lw_p47 : lw_okq (⟨"ShortFramesModel", "plain", "(I)V"⟩, 46) := ⟨⟨by decide +kernel, by decide +kernel⟩, List.mem_of_getElem? (i := 737) (by decide +kernel), List.mem_of_getElem? (i := 1016) (by decide +kernel), List.mem_of_getElem? (i := 1017) (by decide +kernel)⟩
def lw_privs_3 : List (MethodName × Nat) := [(⟨"ShortFramesModel", "isZero", "(II)Z"⟩, 46), (⟨"ShortFramesModel", "contextOf", "(I)I"⟩, 46), (⟨"ShortFramesModel", "groupOf", "()I"⟩, 46), (⟨"ShortFramesModel", "add", "(I)V"⟩, 46), (⟨"ShortFramesModel", "addLasts", "(II)V"⟩, 46), (⟨"ShortFramesModel", "addAll", "(I)V"⟩, 46), (⟨"ShortFramesModel", "addPorts", "()V"⟩, 46), (⟨"ShortFramesModel", "rowToOut", "()V"⟩, 46), (⟨"ShortFramesModel", "unfolds", "(I)Z"⟩, 46), (⟨"ShortFramesModel", "next", "()I"⟩, 46), (⟨"ShortFramesModel", "fails", "(II)Z"⟩, 46), (⟨"ShortFramesModel", "unfoldsFirst", "(I)Z"⟩, 46), (⟨"ShortFramesModel", "set", "(II)V"⟩, 46), (⟨"ShortFramesModel", "unfoldSource", "(I)V"⟩, 46), (⟨"ShortFramesModel", "fromContext", "(II)V"⟩, 46), (⟨"ShortFramesModel", "plain", "(I)V"⟩, 46)]
theorem lw_r3 : ∀ q ∈ lw_privs_3, lw_okq q := List.forall_mem_cons.mpr ⟨lw_p32, List.forall_mem_cons.mpr ⟨lw_p33, List.forall_mem_cons.mpr ⟨lw_p34, List.forall_mem_cons.mpr ⟨lw_p35, List.forall_mem_cons.mpr ⟨lw_p36, List.forall_mem_cons.mpr ⟨lw_p37, List.forall_mem_cons.mpr ⟨lw_p38, List.forall_mem_cons.mpr ⟨lw_p39, List.forall_mem_cons.mpr ⟨lw_p40, List.forall_mem_cons.mpr ⟨lw_p41, List.forall_mem_cons.mpr ⟨lw_p42, List.forall_mem_cons.mpr ⟨lw_p43, List.forall_mem_cons.mpr ⟨lw_p44, List.forall_mem_cons.mpr ⟨lw_p45, List.forall_mem_cons.mpr ⟨lw_p46, List.forall_mem_cons.mpr ⟨lw_p47, fun _ h => absurd h List.not_mem_nil⟩⟩⟩⟩⟩⟩⟩⟩⟩⟩⟩⟩⟩⟩⟩⟩
theorem lw_p48 : lw_okq (⟨"ShortFramesModel", "lasts", "(III)V"⟩, 46) := ⟨⟨by decide +kernel, by decide +kernel⟩, List.mem_of_getElem? (i := 737) (by decide +kernel), List.mem_of_getElem? (i := 1020) (by decide +kernel), List.mem_of_getElem? (i := 1021) (by decide +kernel)⟩
theorem lw_p49 : lw_okq (⟨"ShortFramesModel", "unfoldGoal", "(I)V"⟩, 46) := ⟨⟨by decide +kernel, by decide +kernel⟩, List.mem_of_getElem? (i := 737) (by decide +kernel), List.mem_of_getElem? (i := 1024) (by decide +kernel), List.mem_of_getElem? (i := 1025) (by decide +kernel)⟩
theorem lw_p50 : lw_okq (⟨"ShortFramesModel", "unfoldPorts", "(I)V"⟩, 46) := ⟨⟨by decide +kernel, by decide +kernel⟩, List.mem_of_getElem? (i := 737) (by decide +kernel), List.mem_of_getElem? (i := 1028) (by decide +kernel), List.mem_of_getElem? (i := 1029) (by decide +kernel)⟩
theorem lw_p51 : lw_okq (⟨"ShortFramesModel", "ends", "(IZIII)Z"⟩, 46) := ⟨⟨by decide +kernel, by decide +kernel⟩, List.mem_of_getElem? (i := 737) (by decide +kernel), List.mem_of_getElem? (i := 1032) (by decide +kernel), List.mem_of_getElem? (i := 1033) (by decide +kernel)⟩
theorem lw_p52 : lw_okq (⟨"ShortFramesModel", "packetToOut", "()V"⟩, 46) := ⟨⟨by decide +kernel, by decide +kernel⟩, List.mem_of_getElem? (i := 737) (by decide +kernel), List.mem_of_getElem? (i := 1036) (by decide +kernel), List.mem_of_getElem? (i := 1037) (by decide +kernel)⟩
theorem lw_p53 : lw_okq (⟨"ShortFramesModel", "addTo", "(II)V"⟩, 46) := ⟨⟨by decide +kernel, by decide +kernel⟩, List.mem_of_getElem? (i := 737) (by decide +kernel), List.mem_of_getElem? (i := 1049) (by decide +kernel), List.mem_of_getElem? (i := 1050) (by decide +kernel)⟩
theorem lw_p54 : lw_okq (⟨"ShortFramesModel", "begin", "(IIII)V"⟩, 46) := ⟨⟨by decide +kernel, by decide +kernel⟩, List.mem_of_getElem? (i := 737) (by decide +kernel), List.mem_of_getElem? (i := 1053) (by decide +kernel), List.mem_of_getElem? (i := 1054) (by decide +kernel)⟩
theorem lw_p55 : lw_okq (⟨"ShortFramesModel", "isFrame", "(I)Z"⟩, 46) := ⟨⟨by decide +kernel, by decide +kernel⟩, List.mem_of_getElem? (i := 737) (by decide +kernel), List.mem_of_getElem? (i := 1061) (by decide +kernel), List.mem_of_getElem? (i := 1062) (by decide +kernel)⟩
theorem lw_p56 : lw_okq (⟨"ShortFramesModel", "reads", "(II)V"⟩, 46) := ⟨⟨by decide +kernel, by decide +kernel⟩, List.mem_of_getElem? (i := 737) (by decide +kernel), List.mem_of_getElem? (i := 1077) (by decide +kernel), List.mem_of_getElem? (i := 1078) (by decide +kernel)⟩
theorem lw_p57 : lw_okq (⟨"ShortFramesModel", "drops", "()I"⟩, 46) := ⟨⟨by decide +kernel, by decide +kernel⟩, List.mem_of_getElem? (i := 737) (by decide +kernel), List.mem_of_getElem? (i := 1081) (by decide +kernel), List.mem_of_getElem? (i := 1082) (by decide +kernel)⟩
theorem lw_p58 : lw_okq (⟨"ShortFramesModel", "hears", "(III)I"⟩, 46) := ⟨⟨by decide +kernel, by decide +kernel⟩, List.mem_of_getElem? (i := 737) (by decide +kernel), List.mem_of_getElem? (i := 1085) (by decide +kernel), List.mem_of_getElem? (i := 1086) (by decide +kernel)⟩
theorem lw_p59 : lw_okq (⟨"ShortFramesModel", "goes", "(I)V"⟩, 46) := ⟨⟨by decide +kernel, by decide +kernel⟩, List.mem_of_getElem? (i := 737) (by decide +kernel), List.mem_of_getElem? (i := 1089) (by decide +kernel), List.mem_of_getElem? (i := 1090) (by decide +kernel)⟩
def lw_privs_4 : List (MethodName × Nat) := [(⟨"ShortFramesModel", "lasts", "(III)V"⟩, 46), (⟨"ShortFramesModel", "unfoldGoal", "(I)V"⟩, 46), (⟨"ShortFramesModel", "unfoldPorts", "(I)V"⟩, 46), (⟨"ShortFramesModel", "ends", "(IZIII)Z"⟩, 46), (⟨"ShortFramesModel", "packetToOut", "()V"⟩, 46), (⟨"ShortFramesModel", "addTo", "(II)V"⟩, 46), (⟨"ShortFramesModel", "begin", "(IIII)V"⟩, 46), (⟨"ShortFramesModel", "isFrame", "(I)Z"⟩, 46), (⟨"ShortFramesModel", "reads", "(II)V"⟩, 46), (⟨"ShortFramesModel", "drops", "()I"⟩, 46), (⟨"ShortFramesModel", "hears", "(III)I"⟩, 46), (⟨"ShortFramesModel", "goes", "(I)V"⟩, 46)]
theorem lw_r4 : ∀ q ∈ lw_privs_4, lw_okq q := List.forall_mem_cons.mpr ⟨lw_p48, List.forall_mem_cons.mpr ⟨lw_p49, List.forall_mem_cons.mpr ⟨lw_p50, List.forall_mem_cons.mpr ⟨lw_p51, List.forall_mem_cons.mpr ⟨lw_p52, List.forall_mem_cons.mpr ⟨lw_p53, List.forall_mem_cons.mpr ⟨lw_p54, List.forall_mem_cons.mpr ⟨lw_p55, List.forall_mem_cons.mpr ⟨lw_p56, List.forall_mem_cons.mpr ⟨lw_p57, List.forall_mem_cons.mpr ⟨lw_p58, List.forall_mem_cons.mpr ⟨lw_p59, fun _ h => absurd h List.not_mem_nil⟩⟩⟩⟩⟩⟩⟩⟩⟩⟩⟩⟩
def lw_privs : List (MethodName × Nat) := lw_privs_1 ++ (lw_privs_2 ++ (lw_privs_3 ++ (lw_privs_4)))
def lw_tbl : List Cond := k2_sels lw_privs ++ tables_1
theorem lw_privs_ok : ∀ q ∈ lw_privs, lw_okq q := by
  show ∀ q ∈ lw_privs_1 ++ (lw_privs_2 ++ (lw_privs_3 ++ (lw_privs_4))), lw_okq q
  exact List.forall_mem_append.mpr ⟨lw_r1, List.forall_mem_append.mpr ⟨lw_r2, List.forall_mem_append.mpr ⟨lw_r3, lw_r4⟩⟩⟩
end
section
def RX0 : String := "ShortFrames$Cutter"
def TX0 : u_T := fun k => match k with
  | 0 => ("ShortFrames$Cutter", "squeezer", "LShortFrames$Squeezer;", true)
  | 1 => ("ShortFrames$Cutter", "squeezed", "LShortFrames$Row;", true)
  | _ => ("ShortFrames$Cutter", "piece", "LShortFrames$Row;", true)
def tyX0 : Nat → FieldType := fun k => match k with
  | 0 => .object "ShortFrames$Squeezer"
  | 1 => .object "ShortFrames$Row"
  | _ => .object "ShortFrames$Row"
abbrev wsX00 : List Cond := u_ws RX0 TX0 3
theorem nmX0 : ∀ a, a < 3 → ∀ b, b < 3 → a ≠ b → (TX0 a).2.1 ≠ (TX0 b).2.1 := by decide +kernel
theorem tyX0_ok : ∀ k, k < 3 → parseFieldDescriptor (TX0 k).2.2.1 = some (tyX0 k) := by decide +kernel
abbrev cX0_init : ByteArray := prog_2_method_1_code
def yX0_init : MethodName := ⟨RX0, "<init>", "(LShortFrames$Squeezer;)V"⟩
abbrev cX0_divide : ByteArray := prog_2_method_2_code
def yX0_divide : MethodName := ⟨RX0, "divide", "(LShortFrames$Row;IILShortFrames$Frames;)I"⟩
abbrev cX0_divideRest : ByteArray := prog_2_method_3_code
def yX0_divideRest : MethodName := ⟨RX0, "divideRest", "(LShortFrames$Row;IIILShortFrames$Frames;)I"⟩
abbrev cX0_begin : ByteArray := prog_2_method_4_code
def yX0_begin : MethodName := ⟨RX0, "begin", "(III)V"⟩
def RX1 : String := "ShortFrames$Frames"
def TX1 : u_T := fun k => match k with
  | 0 => ("ShortFrames$Frames", "rows", "[LShortFrames$Row;", true)
  | _ => ("ShortFrames$Frames", "size", "I", false)
def tyX1 : Nat → FieldType := fun k => match k with
  | 0 => .array (.object "ShortFrames$Row")
  | _ => .int
abbrev wsX10 : List Cond := u_ws RX1 TX1 2
theorem nmX1 : ∀ a, a < 2 → ∀ b, b < 2 → a ≠ b → (TX1 a).2.1 ≠ (TX1 b).2.1 := by decide +kernel
theorem tyX1_ok : ∀ k, k < 2 → parseFieldDescriptor (TX1 k).2.2.1 = some (tyX1 k) := by decide +kernel
abbrev cX1_init : ByteArray := prog_3_method_1_code
def yX1_init : MethodName := ⟨RX1, "<init>", "()V"⟩
abbrev cX1_size : ByteArray := prog_3_method_2_code
def yX1_size : MethodName := ⟨RX1, "size", "()I"⟩
abbrev cX1_has : ByteArray := prog_3_method_3_code
def yX1_has : MethodName := ⟨RX1, "has", "(I)Z"⟩
abbrev cX1_at : ByteArray := prog_3_method_4_code
def yX1_at : MethodName := ⟨RX1, "at", "(I)LShortFrames$Row;"⟩
abbrev cX1_clear : ByteArray := prog_3_method_5_code
def yX1_clear : MethodName := ⟨RX1, "clear", "()V"⟩
abbrev cX1_store : ByteArray := prog_3_method_6_code
def yX1_store : MethodName := ⟨RX1, "store", "(ILShortFrames$Row;)Z"⟩
def RX2 : String := "ShortFrames$Heap"
def TX2 : u_T := fun k => match k with
  | 0 => ("ShortFrames$Heap", "content", "LShortFrames$Row;", true)
  | 1 => ("ShortFrames$Heap", "lengths", "[I", true)
  | 2 => ("ShortFrames$Heap", "there", "Z", false)
  | 3 => ("ShortFrames$Heap", "z", "I", false)
  | 4 => ("ShortFrames$Heap", "tag", "I", false)
  | 5 => ("ShortFrames$Heap", "time", "I", false)
  | 6 => ("ShortFrames$Heap", "parts", "I", false)
  | _ => ("ShortFrames$Heap", "bytes", "I", false)
def tyX2 : Nat → FieldType := fun k => match k with
  | 0 => .object "ShortFrames$Row"
  | 1 => .array .int
  | 2 => .boolean
  | 3 => .int
  | 4 => .int
  | 5 => .int
  | 6 => .int
  | _ => .int
abbrev wsX20 : List Cond := u_ws RX2 TX2 8
theorem nmX2 : ∀ a, a < 8 → ∀ b, b < 8 → a ≠ b → (TX2 a).2.1 ≠ (TX2 b).2.1 := by decide +kernel
theorem tyX2_ok : ∀ k, k < 8 → parseFieldDescriptor (TX2 k).2.2.1 = some (tyX2 k) := by decide +kernel
abbrev cX2_init : ByteArray := prog_4_method_1_code
def yX2_init : MethodName := ⟨RX2, "<init>", "()V"⟩
abbrev cX2_isThere : ByteArray := prog_4_method_2_code
def yX2_isThere : MethodName := ⟨RX2, "isThere", "()Z"⟩
abbrev cX2_isOf : ByteArray := prog_4_method_3_code
def yX2_isOf : MethodName := ⟨RX2, "isOf", "(II)Z"⟩
abbrev cX2_beganBy : ByteArray := prog_4_method_4_code
def yX2_beganBy : MethodName := ⟨RX2, "beganBy", "(I)Z"⟩
abbrev cX2_parts : ByteArray := prog_4_method_5_code
def yX2_parts : MethodName := ⟨RX2, "parts", "()I"⟩
abbrev cX2_bytes : ByteArray := prog_4_method_6_code
def yX2_bytes : MethodName := ⟨RX2, "bytes", "()I"⟩
abbrev cX2_content : ByteArray := prog_4_method_7_code
def yX2_content : MethodName := ⟨RX2, "content", "()LShortFrames$Row;"⟩
abbrev cX2_begin : ByteArray := prog_4_method_8_code
def yX2_begin : MethodName := ⟨RX2, "begin", "(III)V"⟩
abbrev cX2_end : ByteArray := prog_4_method_9_code
def yX2_end : MethodName := ⟨RX2, "end", "()V"⟩
abbrev cX2_hasJust : ByteArray := prog_4_method_10_code
def yX2_hasJust : MethodName := ⟨RX2, "hasJust", "(II)Z"⟩
abbrev cX2_meets : ByteArray := prog_4_method_11_code
def yX2_meets : MethodName := ⟨RX2, "meets", "(II)Z"⟩
abbrev cX2_keep : ByteArray := prog_4_method_12_code
def yX2_keep : MethodName := ⟨RX2, "keep", "(ILShortFrames$Row;I)V"⟩
abbrev cX2_isWhole : ByteArray := prog_4_method_13_code
def yX2_isWhole : MethodName := ⟨RX2, "isWhole", "()Z"⟩
def RX3 : String := "ShortFrames$Known"
def TX3 : u_T := fun k => match k with
  | 0 => ("ShortFrames$Known", "there", "[Z", true)
  | 1 => ("ShortFrames$Known", "contexts", "[J", true)
  | 2 => ("ShortFrames$Known", "senderOwn", "J", false)
  | _ => ("ShortFrames$Known", "receiverOwn", "J", false)
def tyX3 : Nat → FieldType := fun k => match k with
  | 0 => .array .boolean
  | 1 => .array .long
  | 2 => .long
  | _ => .long
abbrev wsX30 : List Cond := u_ws RX3 TX3 4
theorem nmX3 : ∀ a, a < 4 → ∀ b, b < 4 → a ≠ b → (TX3 a).2.1 ≠ (TX3 b).2.1 := by decide +kernel
theorem tyX3_ok : ∀ k, k < 4 → parseFieldDescriptor (TX3 k).2.2.1 = some (tyX3 k) := by decide +kernel
abbrev cX3_init : ByteArray := prog_5_method_1_code
def yX3_init : MethodName := ⟨RX3, "<init>", "()V"⟩
abbrev cX3_isThere : ByteArray := prog_5_method_2_code
def yX3_isThere : MethodName := ⟨RX3, "isThere", "(I)Z"⟩
abbrev cX3_contextOf : ByteArray := prog_5_method_3_code
def yX3_contextOf : MethodName := ⟨RX3, "contextOf", "(I)J"⟩
abbrev cX3_setContext : ByteArray := prog_5_method_4_code
def yX3_setContext : MethodName := ⟨RX3, "setContext", "(IZJ)V"⟩
abbrev cX3_setLink : ByteArray := prog_5_method_5_code
def yX3_setLink : MethodName := ⟨RX3, "setLink", "(IZJ)V"⟩
abbrev cX3_own : ByteArray := prog_5_method_6_code
def yX3_own : MethodName := ⟨RX3, "own", "(I)J"⟩
abbrev cX3_least : ByteArray := prog_5_method_7_code
def yX3_least : MethodName := ⟨RX3, "least", "(J)I"⟩
def RX4 : String := "ShortFrames$Mode"
def TX4 : u_T := fun k => match k with
  | _ => ("", "", "", false)
def tyX4 : Nat → FieldType := fun k => match k with
  | _ => .int
abbrev wsX40 : List Cond := u_ws RX4 TX4 0
theorem nmX4 : ∀ a, a < 0 → ∀ b, b < 0 → a ≠ b → (TX4 a).2.1 ≠ (TX4 b).2.1 := by decide +kernel
theorem tyX4_ok : ∀ k, k < 0 → parseFieldDescriptor (TX4 k).2.2.1 = some (tyX4 k) := by decide +kernel
abbrev cX4_bytesOf : ByteArray := prog_6_method_2_code
def yX4_bytesOf : MethodName := ⟨RX4, "bytesOf", "(I)I"⟩
abbrev cX4_usesContext : ByteArray := prog_6_method_3_code
def yX4_usesContext : MethodName := ⟨RX4, "usesContext", "(I)Z"⟩
abbrev cX4_ofSource : ByteArray := prog_6_method_4_code
def yX4_ofSource : MethodName := ⟨RX4, "ofSource", "(LShortFrames$Known;JJ)I"⟩
abbrev cX4_ofGoal : ByteArray := prog_6_method_5_code
def yX4_ofGoal : MethodName := ⟨RX4, "ofGoal", "(LShortFrames$Known;JJ)I"⟩
abbrev cX4_ofOne : ByteArray := prog_6_method_6_code
def yX4_ofOne : MethodName := ⟨RX4, "ofOne", "(LShortFrames$Known;IJJ)I"⟩
abbrev cX4_ofLast : ByteArray := prog_6_method_7_code
def yX4_ofLast : MethodName := ⟨RX4, "ofLast", "(LShortFrames$Known;IJ)I"⟩
abbrev cX4_ofMany : ByteArray := prog_6_method_8_code
def yX4_ofMany : MethodName := ⟨RX4, "ofMany", "(JJ)I"⟩
def RX5 : String := "ShortFrames$Packet"
def TX5 : u_T := fun k => match k with
  | _ => ("", "", "", false)
def tyX5 : Nat → FieldType := fun k => match k with
  | _ => .int
abbrev wsX50 : List Cond := u_ws RX5 TX5 0
theorem nmX5 : ∀ a, a < 0 → ∀ b, b < 0 → a ≠ b → (TX5 a).2.1 ≠ (TX5 b).2.1 := by decide +kernel
theorem tyX5_ok : ∀ k, k < 0 → parseFieldDescriptor (TX5 k).2.2.1 = some (tyX5 k) := by decide +kernel
abbrev cX5_firstFour : ByteArray := prog_7_method_2_code
def yX5_firstFour : MethodName := ⟨RX5, "firstFour", "(II)J"⟩
abbrev cX5_isPacket : ByteArray := prog_7_method_3_code
def yX5_isPacket : MethodName := ⟨RX5, "isPacket", "(LShortFrames$Row;)Z"⟩
abbrev cX5_hasPorts : ByteArray := prog_7_method_4_code
def yX5_hasPorts : MethodName := ⟨RX5, "hasPorts", "(LShortFrames$Row;)Z"⟩
abbrev cX5_t : ByteArray := prog_7_method_5_code
def yX5_t : MethodName := ⟨RX5, "t", "(LShortFrames$Row;)I"⟩
abbrev cX5_l : ByteArray := prog_7_method_6_code
def yX5_l : MethodName := ⟨RX5, "l", "(LShortFrames$Row;)I"⟩
abbrev cX5_headOf : ByteArray := prog_7_method_7_code
def yX5_headOf : MethodName := ⟨RX5, "headOf", "(LShortFrames$Row;)I"⟩
def RX6 : String := "ShortFrames$Receiver"
def TX6 : u_T := fun k => match k with
  | 0 => ("ShortFrames$Receiver", "unfolder", "LShortFrames$Unfolder;", true)
  | 1 => ("ShortFrames$Receiver", "heaps", "[LShortFrames$Heap;", true)
  | 2 => ("ShortFrames$Receiver", "clock", "I", false)
  | 3 => ("ShortFrames$Receiver", "whole", "I", false)
  | 4 => ("ShortFrames$Receiver", "dropped", "I", false)
  | 5 => ("ShortFrames$Receiver", "late", "I", false)
  | _ => ("ShortFrames$Receiver", "anew", "I", false)
def tyX6 : Nat → FieldType := fun k => match k with
  | 0 => .object "ShortFrames$Unfolder"
  | 1 => .array (.object "ShortFrames$Heap")
  | 2 => .int
  | 3 => .int
  | 4 => .int
  | 5 => .int
  | _ => .int
abbrev wsX60 : List Cond := u_ws RX6 TX6 7
theorem nmX6 : ∀ a, a < 7 → ∀ b, b < 7 → a ≠ b → (TX6 a).2.1 ≠ (TX6 b).2.1 := by decide +kernel
theorem tyX6_ok : ∀ k, k < 7 → parseFieldDescriptor (TX6 k).2.2.1 = some (tyX6 k) := by decide +kernel
abbrev cX6_init : ByteArray := prog_8_method_1_code
def yX6_init : MethodName := ⟨RX6, "<init>", "(LShortFrames$Unfolder;)V"⟩
abbrev cX6_goOn : ByteArray := prog_8_method_2_code
def yX6_goOn : MethodName := ⟨RX6, "goOn", "(I)I"⟩
abbrev cX6_heaps : ByteArray := prog_8_method_3_code
def yX6_heaps : MethodName := ⟨RX6, "heaps", "()I"⟩
abbrev cX6_parts : ByteArray := prog_8_method_4_code
def yX6_parts : MethodName := ⟨RX6, "parts", "()I"⟩
abbrev cX6_bytes : ByteArray := prog_8_method_5_code
def yX6_bytes : MethodName := ⟨RX6, "bytes", "()I"⟩
abbrev cX6_listen : ByteArray := prog_8_method_6_code
def yX6_listen : MethodName := ⟨RX6, "listen", "(LShortFrames$Row;LShortFrames$Row;)I"⟩
abbrev cX6_hearsAll : ByteArray := prog_8_method_7_code
def yX6_hearsAll : MethodName := ⟨RX6, "hearsAll", "(LShortFrames$Row;LShortFrames$Row;)I"⟩
abbrev cX6_hearsFirst : ByteArray := prog_8_method_8_code
def yX6_hearsFirst : MethodName := ⟨RX6, "hearsFirst", "(LShortFrames$Row;LShortFrames$Row;)I"⟩
abbrev cX6_hearsPart : ByteArray := prog_8_method_9_code
def yX6_hearsPart : MethodName := ⟨RX6, "hearsPart", "(LShortFrames$Row;ILShortFrames$Row;ILShortFrames$Row;)I"⟩
abbrev cX6_zOf : ByteArray := prog_8_method_10_code
def yX6_zOf : MethodName := ⟨RX6, "zOf", "(LShortFrames$Row;)I"⟩
abbrev cX6_dropLateHeaps : ByteArray := prog_8_method_11_code
def yX6_dropLateHeaps : MethodName := ⟨RX6, "dropLateHeaps", "()V"⟩
abbrev cX6_indexFor : ByteArray := prog_8_method_12_code
def yX6_indexFor : MethodName := ⟨RX6, "indexFor", "(II)I"⟩
def RX7 : String := "ShortFrames$Row"
def TX7 : u_T := fun k => match k with
  | 0 => ("ShortFrames$Row", "bytes", "[I", true)
  | _ => ("ShortFrames$Row", "length", "I", false)
def tyX7 : Nat → FieldType := fun k => match k with
  | 0 => .array .int
  | _ => .int
abbrev wsX70 : List Cond := u_ws RX7 TX7 2
theorem nmX7 : ∀ a, a < 2 → ∀ b, b < 2 → a ≠ b → (TX7 a).2.1 ≠ (TX7 b).2.1 := by decide +kernel
theorem tyX7_ok : ∀ k, k < 2 → parseFieldDescriptor (TX7 k).2.2.1 = some (tyX7 k) := by decide +kernel
abbrev cX7_init : ByteArray := prog_9_method_1_code
def yX7_init : MethodName := ⟨RX7, "<init>", "(I)V"⟩
abbrev cX7_length : ByteArray := prog_9_method_2_code
def yX7_length : MethodName := ⟨RX7, "length", "()I"⟩
abbrev cX7_has : ByteArray := prog_9_method_3_code
def yX7_has : MethodName := ⟨RX7, "has", "(I)Z"⟩
abbrev cX7_takes : ByteArray := prog_9_method_4_code
def yX7_takes : MethodName := ⟨RX7, "takes", "(I)Z"⟩
abbrev cX7_at : ByteArray := prog_9_method_5_code
def yX7_at : MethodName := ⟨RX7, "at", "(I)I"⟩
abbrev cX7_set : ByteArray := prog_9_method_6_code
def yX7_set : MethodName := ⟨RX7, "set", "(II)V"⟩
abbrev cX7_add : ByteArray := prog_9_method_7_code
def yX7_add : MethodName := ⟨RX7, "add", "(I)V"⟩
abbrev cX7_flip : ByteArray := prog_9_method_8_code
def yX7_flip : MethodName := ⟨RX7, "flip", "(II)I"⟩
abbrev cX7_shorten : ByteArray := prog_9_method_9_code
def yX7_shorten : MethodName := ⟨RX7, "shorten", "(I)V"⟩
abbrev cX7_becomeZeros : ByteArray := prog_9_method_10_code
def yX7_becomeZeros : MethodName := ⟨RX7, "becomeZeros", "(I)V"⟩
abbrev cX7_become : ByteArray := prog_9_method_11_code
def yX7_become : MethodName := ⟨RX7, "become", "(LShortFrames$Row;)V"⟩
abbrev cX7_addAll : ByteArray := prog_9_method_12_code
def yX7_addAll : MethodName := ⟨RX7, "addAll", "(LShortFrames$Row;II)V"⟩
abbrev cX7_number : ByteArray := prog_9_method_13_code
def yX7_number : MethodName := ⟨RX7, "number", "(II)J"⟩
abbrev cX7_setNumber : ByteArray := prog_9_method_14_code
def yX7_setNumber : MethodName := ⟨RX7, "setNumber", "(IJI)V"⟩
abbrev cX7_addNumber : ByteArray := prog_9_method_15_code
def yX7_addNumber : MethodName := ⟨RX7, "addNumber", "(JI)V"⟩
def RX8 : String := "ShortFrames$Squeezer"
def TX8 : u_T := fun k => match k with
  | _ => ("ShortFrames$Squeezer", "known", "LShortFrames$Known;", true)
def tyX8 : Nat → FieldType := fun k => match k with
  | _ => .object "ShortFrames$Known"
abbrev wsX80 : List Cond := u_ws RX8 TX8 1
theorem nmX8 : ∀ a, a < 1 → ∀ b, b < 1 → a ≠ b → (TX8 a).2.1 ≠ (TX8 b).2.1 := by decide +kernel
theorem tyX8_ok : ∀ k, k < 1 → parseFieldDescriptor (TX8 k).2.2.1 = some (tyX8 k) := by decide +kernel
abbrev cX8_init : ByteArray := prog_10_method_1_code
def yX8_init : MethodName := ⟨RX8, "<init>", "(LShortFrames$Known;)V"⟩
abbrev cX8_write : ByteArray := prog_10_method_2_code
def yX8_write : MethodName := ⟨RX8, "write", "(LShortFrames$Row;LShortFrames$Row;)I"⟩
abbrev cX8_contextOf : ByteArray := prog_10_method_3_code
def yX8_contextOf : MethodName := ⟨RX8, "contextOf", "(IJ)I"⟩
abbrev cX8_trafficOf : ByteArray := prog_10_method_4_code
def yX8_trafficOf : MethodName := ⟨RX8, "trafficOf", "(LShortFrames$Row;)I"⟩
abbrev cX8_hopsOf : ByteArray := prog_10_method_5_code
def yX8_hopsOf : MethodName := ⟨RX8, "hopsOf", "(I)I"⟩
abbrev cX8_writeTraffic : ByteArray := prog_10_method_6_code
def yX8_writeTraffic : MethodName := ⟨RX8, "writeTraffic", "(LShortFrames$Row;ILShortFrames$Row;)V"⟩
abbrev cX8_writeAddress : ByteArray := prog_10_method_7_code
def yX8_writeAddress : MethodName := ⟨RX8, "writeAddress", "(IJJLShortFrames$Row;)V"⟩
abbrev cX8_writePorts : ByteArray := prog_10_method_8_code
def yX8_writePorts : MethodName := ⟨RX8, "writePorts", "(LShortFrames$Row;LShortFrames$Row;)V"⟩
def RX9 : String := "ShortFrames$Unfolder"
def TX9 : u_T := fun k => match k with
  | 0 => ("ShortFrames$Unfolder", "known", "LShortFrames$Known;", true)
  | 1 => ("ShortFrames$Unfolder", "packet", "LShortFrames$Row;", true)
  | 2 => ("ShortFrames$Unfolder", "at", "I", false)
  | 3 => ("ShortFrames$Unfolder", "fault", "I", false)
  | 4 => ("ShortFrames$Unfolder", "place", "I", false)
  | 5 => ("ShortFrames$Unfolder", "firstByte", "I", false)
  | 6 => ("ShortFrames$Unfolder", "secondByte", "I", false)
  | 7 => ("ShortFrames$Unfolder", "contexts", "I", false)
  | 8 => ("ShortFrames$Unfolder", "portsForm", "I", false)
  | _ => ("ShortFrames$Unfolder", "headBytes", "I", false)
def tyX9 : Nat → FieldType := fun k => match k with
  | 0 => .object "ShortFrames$Known"
  | 1 => .object "ShortFrames$Row"
  | 2 => .int
  | 3 => .int
  | 4 => .int
  | 5 => .int
  | 6 => .int
  | 7 => .int
  | 8 => .int
  | _ => .int
abbrev wsX90 : List Cond := u_ws RX9 TX9 10
theorem nmX9 : ∀ a, a < 10 → ∀ b, b < 10 → a ≠ b → (TX9 a).2.1 ≠ (TX9 b).2.1 := by decide +kernel
theorem tyX9_ok : ∀ k, k < 10 → parseFieldDescriptor (TX9 k).2.2.1 = some (tyX9 k) := by decide +kernel
abbrev cX9_init : ByteArray := prog_11_method_1_code
def yX9_init : MethodName := ⟨RX9, "<init>", "(LShortFrames$Known;)V"⟩
abbrev cX9_packet : ByteArray := prog_11_method_2_code
def yX9_packet : MethodName := ⟨RX9, "packet", "()LShortFrames$Row;"⟩
abbrev cX9_fault : ByteArray := prog_11_method_3_code
def yX9_fault : MethodName := ⟨RX9, "fault", "()I"⟩
abbrev cX9_tell : ByteArray := prog_11_method_4_code
def yX9_tell : MethodName := ⟨RX9, "tell", "([I)V"⟩
abbrev cX9_read : ByteArray := prog_11_method_5_code
def yX9_read : MethodName := ⟨RX9, "read", "(LShortFrames$Row;II)Z"⟩
abbrev cX9_fails : ByteArray := prog_11_method_6_code
def yX9_fails : MethodName := ⟨RX9, "fails", "(II)Z"⟩
abbrev cX9_has : ByteArray := prog_11_method_7_code
def yX9_has : MethodName := ⟨RX9, "has", "(LShortFrames$Row;I)Z"⟩
abbrev cX9_next : ByteArray := prog_11_method_8_code
def yX9_next : MethodName := ⟨RX9, "next", "(LShortFrames$Row;)I"⟩
abbrev cX9_traffic : ByteArray := prog_11_method_9_code
def yX9_traffic : MethodName := ⟨RX9, "traffic", "()I"⟩
abbrev cX9_ports : ByteArray := prog_11_method_10_code
def yX9_ports : MethodName := ⟨RX9, "ports", "()Z"⟩
abbrev cX9_source : ByteArray := prog_11_method_11_code
def yX9_source : MethodName := ⟨RX9, "source", "()I"⟩
abbrev cX9_goal : ByteArray := prog_11_method_12_code
def yX9_goal : MethodName := ⟨RX9, "goal", "()I"⟩
abbrev cX9_readsForm : ByteArray := prog_11_method_13_code
def yX9_readsForm : MethodName := ⟨RX9, "readsForm", "(LShortFrames$Row;)Z"⟩
abbrev cX9_readsContexts : ByteArray := prog_11_method_14_code
def yX9_readsContexts : MethodName := ⟨RX9, "readsContexts", "(LShortFrames$Row;)Z"⟩
abbrev cX9_readsTraffic : ByteArray := prog_11_method_15_code
def yX9_readsTraffic : MethodName := ⟨RX9, "readsTraffic", "(LShortFrames$Row;)Z"⟩
abbrev cX9_readsKind : ByteArray := prog_11_method_16_code
def yX9_readsKind : MethodName := ⟨RX9, "readsKind", "(LShortFrames$Row;)Z"⟩
abbrev cX9_readsHops : ByteArray := prog_11_method_17_code
def yX9_readsHops : MethodName := ⟨RX9, "readsHops", "(LShortFrames$Row;)Z"⟩
abbrev cX9_readsAddress : ByteArray := prog_11_method_18_code
def yX9_readsAddress : MethodName := ⟨RX9, "readsAddress", "(LShortFrames$Row;II)Z"⟩
abbrev cX9_firstEight : ByteArray := prog_11_method_19_code
def yX9_firstEight : MethodName := ⟨RX9, "firstEight", "(II)J"⟩
abbrev cX9_lastEight : ByteArray := prog_11_method_20_code
def yX9_lastEight : MethodName := ⟨RX9, "lastEight", "(IIJ)J"⟩
abbrev cX9_readsPorts : ByteArray := prog_11_method_21_code
def yX9_readsPorts : MethodName := ⟨RX9, "readsPorts", "(LShortFrames$Row;)Z"⟩
abbrev cX9_portsOf : ByteArray := prog_11_method_22_code
def yX9_portsOf : MethodName := ⟨RX9, "portsOf", "(IJ)J"⟩
abbrev cX9_readsRest : ByteArray := prog_11_method_23_code
def yX9_readsRest : MethodName := ⟨RX9, "readsRest", "(LShortFrames$Row;I)Z"⟩
def RX10 : String := "ShortFrames"
def TX10 : u_T := fun k => match k with
  | 0 => ("ShortFrames", "tape", "LShortFrames$Row;", true)
  | 1 => ("ShortFrames", "out", "LShortFrames$Row;", true)
  | 2 => ("ShortFrames", "known", "LShortFrames$Known;", true)
  | 3 => ("ShortFrames", "squeezer", "LShortFrames$Squeezer;", true)
  | 4 => ("ShortFrames", "unfolder", "LShortFrames$Unfolder;", true)
  | 5 => ("ShortFrames", "frames", "LShortFrames$Frames;", true)
  | 6 => ("ShortFrames", "cutter", "LShortFrames$Cutter;", true)
  | 7 => ("ShortFrames", "receiver", "LShortFrames$Receiver;", true)
  | _ => ("ShortFrames", "latest", "[I", true)
def tyX10 : Nat → FieldType := fun k => match k with
  | 0 => .object "ShortFrames$Row"
  | 1 => .object "ShortFrames$Row"
  | 2 => .object "ShortFrames$Known"
  | 3 => .object "ShortFrames$Squeezer"
  | 4 => .object "ShortFrames$Unfolder"
  | 5 => .object "ShortFrames$Frames"
  | 6 => .object "ShortFrames$Cutter"
  | 7 => .object "ShortFrames$Receiver"
  | _ => .array .int
abbrev wsX100 : List Cond := u_ws RX10 TX10 9
theorem nmX10 : ∀ a, a < 9 → ∀ b, b < 9 → a ≠ b → (TX10 a).2.1 ≠ (TX10 b).2.1 := by decide +kernel
theorem tyX10_ok : ∀ k, k < 9 → parseFieldDescriptor (TX10 k).2.2.1 = some (tyX10 k) := by decide +kernel
abbrev cX10_init : ByteArray := prog_1_method_1_code
def yX10_init : MethodName := ⟨RX10, "<init>", "()V"⟩
abbrev cX10_context : ByteArray := prog_1_method_2_code
def yX10_context : MethodName := ⟨RX10, "context", "(IZJ)I"⟩
abbrev cX10_link : ByteArray := prog_1_method_3_code
def yX10_link : MethodName := ⟨RX10, "link", "(IZJ)I"⟩
abbrev cX10_type : ByteArray := prog_1_method_4_code
def yX10_type : MethodName := ⟨RX10, "type", "(JI)I"⟩
abbrev cX10_head : ByteArray := prog_1_method_5_code
def yX10_head : MethodName := ⟨RX10, "head", "(IIIIIJJJJ)I"⟩
abbrev cX10_cut : ByteArray := prog_1_method_6_code
def yX10_cut : MethodName := ⟨RX10, "cut", "(I)I"⟩
abbrev cX10_poke : ByteArray := prog_1_method_7_code
def yX10_poke : MethodName := ⟨RX10, "poke", "(II)I"⟩
abbrev cX10_take : ByteArray := prog_1_method_8_code
def yX10_take : MethodName := ⟨RX10, "take", "()I"⟩
abbrev cX10_out : ByteArray := prog_1_method_9_code
def yX10_out : MethodName := ⟨RX10, "out", "(I)I"⟩
abbrev cX10_squeeze : ByteArray := prog_1_method_10_code
def yX10_squeeze : MethodName := ⟨RX10, "squeeze", "()I"⟩
abbrev cX10_unfold : ByteArray := prog_1_method_11_code
def yX10_unfold : MethodName := ⟨RX10, "unfold", "()I"⟩
abbrev cX10_told : ByteArray := prog_1_method_12_code
def yX10_told : MethodName := ⟨RX10, "told", "(I)I"⟩
abbrev cX10_slice : ByteArray := prog_1_method_13_code
def yX10_slice : MethodName := ⟨RX10, "slice", "(II)I"⟩
abbrev cX10_frame : ByteArray := prog_1_method_14_code
def yX10_frame : MethodName := ⟨RX10, "frame", "(II)I"⟩
abbrev cX10_spoil : ByteArray := prog_1_method_15_code
def yX10_spoil : MethodName := ⟨RX10, "spoil", "(III)I"⟩
abbrev cX10_put : ByteArray := prog_1_method_16_code
def yX10_put : MethodName := ⟨RX10, "put", "(I)I"⟩
abbrev cX10_hear : ByteArray := prog_1_method_17_code
def yX10_hear : MethodName := ⟨RX10, "hear", "(I)I"⟩
abbrev cX10_pass : ByteArray := prog_1_method_18_code
def yX10_pass : MethodName := ⟨RX10, "pass", "(I)I"⟩
abbrev cX10_count : ByteArray := prog_1_method_19_code
def yX10_count : MethodName := ⟨RX10, "count", "(I)I"⟩
abbrev cX10_isOutside : ByteArray := prog_1_method_20_code
def yX10_isOutside : MethodName := ⟨RX10, "isOutside", "(II)Z"⟩
abbrev cX10_byteOrLength : ByteArray := prog_1_method_21_code
def yX10_byteOrLength : MethodName := ⟨RX10, "byteOrLength", "(LShortFrames$Row;I)I"⟩
def RX11 : String := "ShortFramesModel"
def TX11 : u_T := fun k => match k with
  | 0 => ("ShortFramesModel", "known", "[Z", true)
  | 1 => ("ShortFramesModel", "contexts", "[I", true)
  | 2 => ("ShortFramesModel", "own", "[I", true)
  | 3 => ("ShortFramesModel", "tape", "[I", true)
  | 4 => ("ShortFramesModel", "taped", "I", false)
  | 5 => ("ShortFramesModel", "outs", "[I", true)
  | 6 => ("ShortFramesModel", "outed", "I", false)
  | 7 => ("ShortFramesModel", "row", "[I", true)
  | 8 => ("ShortFramesModel", "rowSize", "I", false)
  | 9 => ("ShortFramesModel", "headSize", "I", false)
  | 10 => ("ShortFramesModel", "standsFor", "I", false)
  | 11 => ("ShortFramesModel", "sac", "I", false)
  | 12 => ("ShortFramesModel", "sam", "I", false)
  | 13 => ("ShortFramesModel", "sc", "I", false)
  | 14 => ("ShortFramesModel", "m", "I", false)
  | 15 => ("ShortFramesModel", "dac", "I", false)
  | 16 => ("ShortFramesModel", "dam", "I", false)
  | 17 => ("ShortFramesModel", "dc", "I", false)
  | 18 => ("ShortFramesModel", "read", "[I", true)
  | 19 => ("ShortFramesModel", "readSize", "I", false)
  | 20 => ("ShortFramesModel", "at", "I", false)
  | 21 => ("ShortFramesModel", "fault", "I", false)
  | 22 => ("ShortFramesModel", "place", "I", false)
  | 23 => ("ShortFramesModel", "packet", "[I", true)
  | 24 => ("ShortFramesModel", "packetSize", "I", false)
  | 25 => ("ShortFramesModel", "facts", "[I", true)
  | 26 => ("ShortFramesModel", "isTold", "Z", false)
  | 27 => ("ShortFramesModel", "toldFault", "I", false)
  | 28 => ("ShortFramesModel", "toldPlace", "I", false)
  | 29 => ("ShortFramesModel", "toldFacts", "[I", true)
  | 30 => ("ShortFramesModel", "frames", "[I", true)
  | 31 => ("ShortFramesModel", "sizes", "[I", true)
  | 32 => ("ShortFramesModel", "frameMany", "I", false)
  | 33 => ("ShortFramesModel", "clock", "I", false)
  | 34 => ("ShortFramesModel", "heaps", "I", false)
  | 35 => ("ShortFramesModel", "heapSize", "[I", true)
  | 36 => ("ShortFramesModel", "heapTag", "[I", true)
  | 37 => ("ShortFramesModel", "heapTime", "[I", true)
  | 38 => ("ShortFramesModel", "heapBytes", "[I", true)
  | 39 => ("ShortFramesModel", "parts", "[I", true)
  | 40 => ("ShortFramesModel", "partAt", "[I", true)
  | 41 => ("ShortFramesModel", "partSize", "[I", true)
  | 42 => ("ShortFramesModel", "whole", "I", false)
  | 43 => ("ShortFramesModel", "dropped", "I", false)
  | 44 => ("ShortFramesModel", "late", "I", false)
  | _ => ("ShortFramesModel", "anew", "I", false)
def tyX11 : Nat → FieldType := fun k => match k with
  | 0 => .array .boolean
  | 1 => .array .int
  | 2 => .array .int
  | 3 => .array .int
  | 4 => .int
  | 5 => .array .int
  | 6 => .int
  | 7 => .array .int
  | 8 => .int
  | 9 => .int
  | 10 => .int
  | 11 => .int
  | 12 => .int
  | 13 => .int
  | 14 => .int
  | 15 => .int
  | 16 => .int
  | 17 => .int
  | 18 => .array .int
  | 19 => .int
  | 20 => .int
  | 21 => .int
  | 22 => .int
  | 23 => .array .int
  | 24 => .int
  | 25 => .array .int
  | 26 => .boolean
  | 27 => .int
  | 28 => .int
  | 29 => .array .int
  | 30 => .array .int
  | 31 => .array .int
  | 32 => .int
  | 33 => .int
  | 34 => .int
  | 35 => .array .int
  | 36 => .array .int
  | 37 => .array .int
  | 38 => .array .int
  | 39 => .array .int
  | 40 => .array .int
  | 41 => .array .int
  | 42 => .int
  | 43 => .int
  | 44 => .int
  | _ => .int
abbrev wsX110 : List Cond := u_ws RX11 TX11 46
theorem nmX11 : ∀ a, a < 46 → ∀ b, b < 46 → a ≠ b → (TX11 a).2.1 ≠ (TX11 b).2.1 := by decide +kernel
theorem tyX11_ok : ∀ k, k < 46 → parseFieldDescriptor (TX11 k).2.2.1 = some (tyX11 k) := by decide +kernel
abbrev cX11_in : ByteArray := prog_13_method_2_code
def yX11_in : MethodName := ⟨RX11, "in", "(III)Z"⟩
abbrev cX11_init : ByteArray := prog_13_method_3_code
def yX11_init : MethodName := ⟨RX11, "<init>", "()V"⟩
abbrev cX11_context : ByteArray := prog_13_method_4_code
def yX11_context : MethodName := ⟨RX11, "context", "(IZJ)I"⟩
abbrev cX11_link : ByteArray := prog_13_method_5_code
def yX11_link : MethodName := ⟨RX11, "link", "(IZJ)I"⟩
abbrev cX11_lay : ByteArray := prog_13_method_6_code
def yX11_lay : MethodName := ⟨RX11, "lay", "(I)V"⟩
abbrev cX11_layLong : ByteArray := prog_13_method_7_code
def yX11_layLong : MethodName := ⟨RX11, "layLong", "(J)V"⟩
abbrev cX11_type : ByteArray := prog_13_method_8_code
def yX11_type : MethodName := ⟨RX11, "type", "(JI)I"⟩
abbrev cX11_head : ByteArray := prog_13_method_9_code
def yX11_head : MethodName := ⟨RX11, "head", "(IIIIIJJJJ)I"⟩
abbrev cX11_cut : ByteArray := prog_13_method_10_code
def yX11_cut : MethodName := ⟨RX11, "cut", "(I)I"⟩
abbrev cX11_poke : ByteArray := prog_13_method_11_code
def yX11_poke : MethodName := ⟨RX11, "poke", "(II)I"⟩
abbrev cX11_take : ByteArray := prog_13_method_12_code
def yX11_take : MethodName := ⟨RX11, "take", "()I"⟩
abbrev cX11_out : ByteArray := prog_13_method_13_code
def yX11_out : MethodName := ⟨RX11, "out", "(I)I"⟩
abbrev cX11_add : ByteArray := prog_13_method_14_code
def yX11_add : MethodName := ⟨RX11, "add", "(I)V"⟩
abbrev cX11_isPacket : ByteArray := prog_13_method_15_code
def yX11_isPacket : MethodName := ⟨RX11, "isPacket", "()Z"⟩
abbrev cX11_isPlain : ByteArray := prog_13_method_16_code
def yX11_isPlain : MethodName := ⟨RX11, "isPlain", "(I)Z"⟩
abbrev cX11_isZero : ByteArray := prog_13_method_17_code
def yX11_isZero : MethodName := ⟨RX11, "isZero", "(II)Z"⟩
abbrev cX11_contextOf : ByteArray := prog_13_method_18_code
def yX11_contextOf : MethodName := ⟨RX11, "contextOf", "(I)I"⟩
abbrev cX11_lastsOf : ByteArray := prog_13_method_19_code
def yX11_lastsOf : MethodName := ⟨RX11, "lastsOf", "(II)I"⟩
abbrev cX11_groupOf : ByteArray := prog_13_method_20_code
def yX11_groupOf : MethodName := ⟨RX11, "groupOf", "()I"⟩
abbrev cX11_addLasts : ByteArray := prog_13_method_21_code
def yX11_addLasts : MethodName := ⟨RX11, "addLasts", "(II)V"⟩
abbrev cX11_addAll : ByteArray := prog_13_method_22_code
def yX11_addAll : MethodName := ⟨RX11, "addAll", "(I)V"⟩
abbrev cX11_sorts : ByteArray := prog_13_method_23_code
def yX11_sorts : MethodName := ⟨RX11, "sorts", "()V"⟩
abbrev cX11_squeezeTape : ByteArray := prog_13_method_24_code
def yX11_squeezeTape : MethodName := ⟨RX11, "squeezeTape", "()V"⟩
abbrev cX11_addPorts : ByteArray := prog_13_method_25_code
def yX11_addPorts : MethodName := ⟨RX11, "addPorts", "()V"⟩
abbrev cX11_rowToOut : ByteArray := prog_13_method_26_code
def yX11_rowToOut : MethodName := ⟨RX11, "rowToOut", "()V"⟩
abbrev cX11_squeeze : ByteArray := prog_13_method_27_code
def yX11_squeeze : MethodName := ⟨RX11, "squeeze", "()I"⟩
abbrev cX11_fails : ByteArray := prog_13_method_28_code
def yX11_fails : MethodName := ⟨RX11, "fails", "(II)Z"⟩
abbrev cX11_next : ByteArray := prog_13_method_29_code
def yX11_next : MethodName := ⟨RX11, "next", "()I"⟩
abbrev cX11_set : ByteArray := prog_13_method_30_code
def yX11_set : MethodName := ⟨RX11, "set", "(II)V"⟩
abbrev cX11_lasts : ByteArray := prog_13_method_31_code
def yX11_lasts : MethodName := ⟨RX11, "lasts", "(III)V"⟩
abbrev cX11_plain : ByteArray := prog_13_method_32_code
def yX11_plain : MethodName := ⟨RX11, "plain", "(I)V"⟩
abbrev cX11_fromContext : ByteArray := prog_13_method_33_code
def yX11_fromContext : MethodName := ⟨RX11, "fromContext", "(II)V"⟩
abbrev cX11_unfolds : ByteArray := prog_13_method_34_code
def yX11_unfolds : MethodName := ⟨RX11, "unfolds", "(I)Z"⟩
abbrev cX11_ends : ByteArray := prog_13_method_35_code
def yX11_ends : MethodName := ⟨RX11, "ends", "(IZIII)Z"⟩
abbrev cX11_unfoldsFirst : ByteArray := prog_13_method_36_code
def yX11_unfoldsFirst : MethodName := ⟨RX11, "unfoldsFirst", "(I)Z"⟩
abbrev cX11_unfoldSource : ByteArray := prog_13_method_37_code
def yX11_unfoldSource : MethodName := ⟨RX11, "unfoldSource", "(I)V"⟩
abbrev cX11_unfoldGoal : ByteArray := prog_13_method_38_code
def yX11_unfoldGoal : MethodName := ⟨RX11, "unfoldGoal", "(I)V"⟩
abbrev cX11_unfoldPorts : ByteArray := prog_13_method_39_code
def yX11_unfoldPorts : MethodName := ⟨RX11, "unfoldPorts", "(I)V"⟩
abbrev cX11_packetToOut : ByteArray := prog_13_method_40_code
def yX11_packetToOut : MethodName := ⟨RX11, "packetToOut", "()V"⟩
abbrev cX11_unfold : ByteArray := prog_13_method_41_code
def yX11_unfold : MethodName := ⟨RX11, "unfold", "()I"⟩
abbrev cX11_told : ByteArray := prog_13_method_42_code
def yX11_told : MethodName := ⟨RX11, "told", "(I)I"⟩
abbrev cX11_addTo : ByteArray := prog_13_method_43_code
def yX11_addTo : MethodName := ⟨RX11, "addTo", "(II)V"⟩
abbrev cX11_begin : ByteArray := prog_13_method_44_code
def yX11_begin : MethodName := ⟨RX11, "begin", "(IIII)V"⟩
abbrev cX11_slice : ByteArray := prog_13_method_45_code
def yX11_slice : MethodName := ⟨RX11, "slice", "(II)I"⟩
abbrev cX11_isFrame : ByteArray := prog_13_method_46_code
def yX11_isFrame : MethodName := ⟨RX11, "isFrame", "(I)Z"⟩
abbrev cX11_frame : ByteArray := prog_13_method_47_code
def yX11_frame : MethodName := ⟨RX11, "frame", "(II)I"⟩
abbrev cX11_spoil : ByteArray := prog_13_method_48_code
def yX11_spoil : MethodName := ⟨RX11, "spoil", "(III)I"⟩
abbrev cX11_put : ByteArray := prog_13_method_49_code
def yX11_put : MethodName := ⟨RX11, "put", "(I)I"⟩
abbrev cX11_goes : ByteArray := prog_13_method_50_code
def yX11_goes : MethodName := ⟨RX11, "goes", "(I)V"⟩
abbrev cX11_drops : ByteArray := prog_13_method_51_code
def yX11_drops : MethodName := ⟨RX11, "drops", "()I"⟩
abbrev cX11_reads : ByteArray := prog_13_method_52_code
def yX11_reads : MethodName := ⟨RX11, "reads", "(II)V"⟩
abbrev cX11_hear : ByteArray := prog_13_method_53_code
def yX11_hear : MethodName := ⟨RX11, "hear", "(I)I"⟩
abbrev cX11_hears : ByteArray := prog_13_method_54_code
def yX11_hears : MethodName := ⟨RX11, "hears", "(III)I"⟩
abbrev cX11_pass : ByteArray := prog_13_method_55_code
def yX11_pass : MethodName := ⟨RX11, "pass", "(I)I"⟩
abbrev cX11_count : ByteArray := prog_13_method_56_code
def yX11_count : MethodName := ⟨RX11, "count", "(I)I"⟩
def RL : String := "ShortFramesLaw"
abbrev cL_law : ByteArray := code
def yL_law : MethodName := ⟨RL, "law", "([I)Z"⟩
abbrev vwCl : List vw_C := [(RX0, TX0, 3), (RX1, TX1, 2), (RX2, TX2, 8), (RX3, TX3, 4), (RX6, TX6, 7), (RX7, TX7, 2), (RX8, TX8, 1), (RX9, TX9, 10), (RX10, TX10, 9), (RX11, TX11, 46)]
/-- the words that outlast a call -/
def lw_g : List Cond := lw_tbl.filter goodWord
theorem lw_gin {w : Cond} (h : w ∈ lw_g) : w ∈ lw_tbl := (List.mem_filter.mp h).1
theorem tm_0 {w : Cond} (h : w ∈ k2_sels lw_privs) (hg : goodWord w = true) : w ∈ lw_g := List.mem_filter.mpr ⟨List.mem_append_left _ h, hg⟩
theorem tm_1 {w : Cond} (h : w ∈ tables_1_1) (hg : goodWord w = true) : w ∈ lw_g := List.mem_filter.mpr ⟨List.mem_append_right _ (List.mem_append_left _ h), hg⟩
theorem tm_2 {w : Cond} (h : w ∈ tables_1_2) (hg : goodWord w = true) : w ∈ lw_g := List.mem_filter.mpr ⟨List.mem_append_right _ (List.mem_append_right _ (List.mem_append_left _ h)), hg⟩
theorem tm_3 {w : Cond} (h : w ∈ tables_1_3) (hg : goodWord w = true) : w ∈ lw_g := List.mem_filter.mpr ⟨List.mem_append_right _ (List.mem_append_right _ (List.mem_append_right _ (List.mem_append_left _ h))), hg⟩
theorem tm_4 {w : Cond} (h : w ∈ tables_1_4) (hg : goodWord w = true) : w ∈ lw_g := List.mem_filter.mpr ⟨List.mem_append_right _ (List.mem_append_right _ (List.mem_append_right _ (List.mem_append_right _ (List.mem_append_left _ h)))), hg⟩
theorem tm_5 {w : Cond} (h : w ∈ tables_1_5) (hg : goodWord w = true) : w ∈ lw_g := List.mem_filter.mpr ⟨List.mem_append_right _ (List.mem_append_right _ (List.mem_append_right _ (List.mem_append_right _ (List.mem_append_right _ (h))))), hg⟩
theorem wd_1 : (Cond.classLink RL 7 RX10) ∈ lw_g := tm_1 (List.mem_of_getElem? (i := 13) rfl) rfl
theorem wd_2 : (Cond.instantiable RX10 9) ∈ lw_g := tm_1 (List.mem_of_getElem? (i := 14) rfl) rfl
theorem wd_3 : (Cond.initialized RX10) ∈ lw_g := tm_1 (List.mem_of_getElem? (i := 1) rfl) rfl
theorem wd_4 : (Cond.classLink RL 10 RX11) ∈ lw_g := tm_4 (List.mem_of_getElem? (i := 16) rfl) rfl
theorem wd_5 : (Cond.instantiable RX11 46) ∈ lw_g := tm_4 (List.mem_of_getElem? (i := 17) rfl) rfl
theorem wd_6 : (Cond.initialized RX11) ∈ lw_g := tm_1 (List.mem_of_getElem? (i := 10) rfl) rfl
theorem wd_7 : (Cond.constantLong RL 13 (4294967295)) ∈ lw_g := tm_5 (List.mem_of_getElem? (i := 140) rfl) rfl
theorem wd_8 : (Cond.methodLink RL 9 yX10_init) ∈ lw_g := tm_1 (List.mem_of_getElem? (i := 15) rfl) rfl
theorem wd_9 : (Cond.instanceMethod yX10_init) ∈ lw_g := tm_1 (List.mem_of_getElem? (i := 16) rfl) rfl
theorem wd_10 : (Cond.code yX10_init cX10_init 4 none) ∈ lw_g := tm_1 (List.mem_of_getElem? (i := 17) rfl) rfl
theorem wd_11 : (Cond.methodLink RX10 1 objectInit) ∈ lw_g := tm_1 (List.mem_of_getElem? (i := 18) rfl) rfl
theorem wd_12 : (Cond.instanceMethod objectInit) ∈ lw_g := tm_1 (List.mem_of_getElem? (i := 19) rfl) rfl
theorem wd_13 : (Cond.code objectInit ⟨#[0xb1]⟩ 1 none) ∈ lw_g := tm_1 (List.mem_of_getElem? (i := 20) rfl) rfl
theorem wd_14 : (Cond.classLink RX10 7 RX3) ∈ lw_g := tm_1 (List.mem_of_getElem? (i := 21) rfl) rfl
theorem wd_15 : (Cond.instantiable RX3 4) ∈ lw_g := tm_1 (List.mem_of_getElem? (i := 22) rfl) rfl
theorem wd_16 : (Cond.initialized RX3) ∈ lw_g := tm_1 (List.mem_of_getElem? (i := 2) rfl) rfl
theorem wd_17 : (Cond.classLink RX10 10 RX8) ∈ lw_g := tm_1 (List.mem_of_getElem? (i := 43) rfl) rfl
theorem wd_18 : (Cond.instantiable RX8 1) ∈ lw_g := tm_1 (List.mem_of_getElem? (i := 44) rfl) rfl
theorem wd_19 : (Cond.initialized RX8) ∈ lw_g := tm_1 (List.mem_of_getElem? (i := 3) rfl) rfl
theorem wd_20 : (Cond.classLink RX10 15 RX9) ∈ lw_g := tm_1 (List.mem_of_getElem? (i := 53) rfl) rfl
theorem wd_21 : (Cond.instantiable RX9 10) ∈ lw_g := tm_1 (List.mem_of_getElem? (i := 54) rfl) rfl
theorem wd_22 : (Cond.initialized RX9) ∈ lw_g := tm_1 (List.mem_of_getElem? (i := 4) rfl) rfl
theorem wd_23 : (Cond.classLink RX10 18 RX7) ∈ lw_g := tm_1 (List.mem_of_getElem? (i := 104) rfl) rfl
theorem wd_24 : (Cond.instantiable RX7 2) ∈ lw_g := tm_1 (List.mem_of_getElem? (i := 60) rfl) rfl
theorem wd_25 : (Cond.initialized RX7) ∈ lw_g := tm_1 (List.mem_of_getElem? (i := 5) rfl) rfl
theorem wd_26 : (Cond.fieldLink RX10 25 "ShortFrames" "tape" "LShortFrames$Row;") ∈ lw_g := tm_1 (List.mem_of_getElem? (i := 207) rfl) rfl
theorem wd_27 : (Cond.fieldLink RX10 29 "ShortFrames" "out" "LShortFrames$Row;") ∈ lw_g := tm_1 (List.mem_of_getElem? (i := 208) rfl) rfl
theorem wd_28 : (Cond.fieldLink RX10 32 "ShortFrames" "known" "LShortFrames$Known;") ∈ lw_g := tm_1 (List.mem_of_getElem? (i := 209) rfl) rfl
theorem wd_29 : (Cond.fieldLink RX10 36 "ShortFrames" "squeezer" "LShortFrames$Squeezer;") ∈ lw_g := tm_1 (List.mem_of_getElem? (i := 210) rfl) rfl
theorem wd_30 : (Cond.fieldLink RX10 40 "ShortFrames" "unfolder" "LShortFrames$Unfolder;") ∈ lw_g := tm_1 (List.mem_of_getElem? (i := 211) rfl) rfl
theorem wd_31 : (Cond.classLink RX10 44 RX1) ∈ lw_g := tm_1 (List.mem_of_getElem? (i := 106) rfl) rfl
theorem wd_32 : (Cond.instantiable RX1 2) ∈ lw_g := tm_1 (List.mem_of_getElem? (i := 107) rfl) rfl
theorem wd_33 : (Cond.initialized RX1) ∈ lw_g := tm_1 (List.mem_of_getElem? (i := 6) rfl) rfl
theorem wd_34 : (Cond.fieldLink RX10 47 "ShortFrames" "frames" "LShortFrames$Frames;") ∈ lw_g := tm_1 (List.mem_of_getElem? (i := 212) rfl) rfl
theorem wd_35 : (Cond.classLink RX10 51 RX0) ∈ lw_g := tm_1 (List.mem_of_getElem? (i := 122) rfl) rfl
theorem wd_36 : (Cond.instantiable RX0 3) ∈ lw_g := tm_1 (List.mem_of_getElem? (i := 123) rfl) rfl
theorem wd_37 : (Cond.initialized RX0) ∈ lw_g := tm_1 (List.mem_of_getElem? (i := 7) rfl) rfl
theorem wd_38 : (Cond.fieldLink RX10 56 "ShortFrames" "cutter" "LShortFrames$Cutter;") ∈ lw_g := tm_1 (List.mem_of_getElem? (i := 213) rfl) rfl
theorem wd_39 : (Cond.classLink RX10 60 RX6) ∈ lw_g := tm_1 (List.mem_of_getElem? (i := 140) rfl) rfl
theorem wd_40 : (Cond.instantiable RX6 7) ∈ lw_g := tm_1 (List.mem_of_getElem? (i := 141) rfl) rfl
theorem wd_41 : (Cond.initialized RX6) ∈ lw_g := tm_1 (List.mem_of_getElem? (i := 8) rfl) rfl
theorem wd_42 : (Cond.fieldLink RX10 65 "ShortFrames" "receiver" "LShortFrames$Receiver;") ∈ lw_g := tm_1 (List.mem_of_getElem? (i := 214) rfl) rfl
theorem wd_43 : (Cond.arrayClass .int) ∈ lw_g := tm_1 (List.mem_of_getElem? (i := 72) rfl) rfl
theorem wd_44 : (Cond.fieldLink RX10 69 "ShortFrames" "latest" "[I") ∈ lw_g := tm_1 (List.mem_of_getElem? (i := 215) rfl) rfl
theorem wd_45 : (Cond.instanceMethod yX3_init) ∈ lw_g := tm_1 (List.mem_of_getElem? (i := 24) rfl) rfl
theorem wd_46 : (Cond.code yX3_init cX3_init 1 none) ∈ lw_g := tm_1 (List.mem_of_getElem? (i := 25) rfl) rfl
theorem wd_47 : (Cond.methodLink RX3 1 objectInit) ∈ lw_g := tm_1 (List.mem_of_getElem? (i := 26) rfl) rfl
theorem wd_48 : (Cond.arrayClass .boolean) ∈ lw_g := tm_1 (List.mem_of_getElem? (i := 41) rfl) rfl
theorem wd_49 : (Cond.fieldLink RX3 9 "ShortFrames$Known" "there" "[Z") ∈ lw_g := tm_1 (List.mem_of_getElem? (i := 28) rfl) rfl
theorem wd_50 : (Cond.arrayClass .long) ∈ lw_g := tm_1 (List.mem_of_getElem? (i := 42) rfl) rfl
theorem wd_51 : (Cond.fieldLink RX3 13 "ShortFrames$Known" "contexts" "[J") ∈ lw_g := tm_1 (List.mem_of_getElem? (i := 29) rfl) rfl
theorem wd_52 : (Cond.constantLong RX3 17 (1099478073344)) ∈ lw_g := tm_1 (List.mem_of_getElem? (i := 27) rfl) rfl
theorem wd_53 : (Cond.fieldLink RX3 19 "ShortFrames$Known" "senderOwn" "J") ∈ lw_g := tm_1 (List.mem_of_getElem? (i := 30) rfl) rfl
theorem wd_54 : (Cond.fieldLink RX3 23 "ShortFrames$Known" "receiverOwn" "J") ∈ lw_g := tm_1 (List.mem_of_getElem? (i := 31) rfl) rfl
theorem wd_55 : (Cond.methodLink RX10 12 yX8_init) ∈ lw_g := tm_1 (List.mem_of_getElem? (i := 45) rfl) rfl
theorem wd_56 : (Cond.instanceMethod yX8_init) ∈ lw_g := tm_1 (List.mem_of_getElem? (i := 46) rfl) rfl
theorem wd_57 : (Cond.code yX8_init cX8_init 2 none) ∈ lw_g := tm_1 (List.mem_of_getElem? (i := 47) rfl) rfl
theorem wd_58 : (Cond.methodLink RX8 1 objectInit) ∈ lw_g := tm_1 (List.mem_of_getElem? (i := 48) rfl) rfl
theorem wd_59 : (Cond.fieldLink RX8 7 "ShortFrames$Squeezer" "known" "LShortFrames$Known;") ∈ lw_g := tm_1 (List.mem_of_getElem? (i := 49) rfl) rfl
theorem wd_60 : (Cond.methodLink RX10 17 yX9_init) ∈ lw_g := tm_1 (List.mem_of_getElem? (i := 55) rfl) rfl
theorem wd_61 : (Cond.instanceMethod yX9_init) ∈ lw_g := tm_1 (List.mem_of_getElem? (i := 56) rfl) rfl
theorem wd_62 : (Cond.code yX9_init cX9_init 2 none) ∈ lw_g := tm_1 (List.mem_of_getElem? (i := 57) rfl) rfl
theorem wd_63 : (Cond.methodLink RX9 3 objectInit) ∈ lw_g := tm_1 (List.mem_of_getElem? (i := 58) rfl) rfl
theorem wd_64 : (Cond.classLink RX9 9 RX7) ∈ lw_g := tm_1 (List.mem_of_getElem? (i := 59) rfl) rfl
theorem wd_65 : (Cond.fieldLink RX9 14 "ShortFrames$Unfolder" "packet" "LShortFrames$Row;") ∈ lw_g := tm_1 (List.mem_of_getElem? (i := 74) rfl) rfl
theorem wd_66 : (Cond.fieldLink RX9 20 "ShortFrames$Unfolder" "known" "LShortFrames$Known;") ∈ lw_g := tm_1 (List.mem_of_getElem? (i := 73) rfl) rfl
theorem wd_67 : (Cond.methodLink RX9 11 yX7_init) ∈ lw_g := tm_1 (List.mem_of_getElem? (i := 61) rfl) rfl
theorem wd_68 : (Cond.instanceMethod yX7_init) ∈ lw_g := tm_1 (List.mem_of_getElem? (i := 62) rfl) rfl
theorem wd_69 : (Cond.code yX7_init cX7_init 2 none) ∈ lw_g := tm_1 (List.mem_of_getElem? (i := 63) rfl) rfl
theorem wd_70 : (Cond.methodLink RX7 1 objectInit) ∈ lw_g := tm_1 (List.mem_of_getElem? (i := 64) rfl) rfl
theorem wd_71 : (Cond.fieldLink RX7 7 "ShortFrames$Row" "bytes" "[I") ∈ lw_g := tm_1 (List.mem_of_getElem? (i := 65) rfl) rfl
theorem wd_72 : (Cond.fieldLink RX7 13 "ShortFrames$Row" "length" "I") ∈ lw_g := tm_1 (List.mem_of_getElem? (i := 66) rfl) rfl
theorem wd_73 : (Cond.methodLink RX10 22 yX7_init) ∈ lw_g := tm_1 (List.mem_of_getElem? (i := 105) rfl) rfl
theorem wd_74 : (Cond.methodLink RX10 46 yX1_init) ∈ lw_g := tm_1 (List.mem_of_getElem? (i := 108) rfl) rfl
theorem wd_75 : (Cond.instanceMethod yX1_init) ∈ lw_g := tm_1 (List.mem_of_getElem? (i := 109) rfl) rfl
theorem wd_76 : (Cond.code yX1_init cX1_init 2 none) ∈ lw_g := tm_1 (List.mem_of_getElem? (i := 110) rfl) rfl
theorem wd_77 : (Cond.methodLink RX1 3 objectInit) ∈ lw_g := tm_1 (List.mem_of_getElem? (i := 111) rfl) rfl
theorem wd_78 : (Cond.classLink RX1 9 RX7) ∈ lw_g := tm_1 (List.mem_of_getElem? (i := 112) rfl) rfl
theorem wd_79 : (Cond.fieldLink RX1 11 "ShortFrames$Frames" "rows" "[LShortFrames$Row;") ∈ lw_g := tm_1 (List.mem_of_getElem? (i := 115) rfl) rfl
theorem wd_80 : (Cond.fieldLink RX1 20 "ShortFrames$Frames" "size" "I") ∈ lw_g := tm_1 (List.mem_of_getElem? (i := 116) rfl) rfl
theorem wd_81 : (Cond.methodLink RX1 17 yX7_init) ∈ lw_g := tm_1 (List.mem_of_getElem? (i := 114) rfl) rfl
theorem wd_82 : (Cond.methodLink RX10 53 yX0_init) ∈ lw_g := tm_1 (List.mem_of_getElem? (i := 124) rfl) rfl
theorem wd_83 : (Cond.instanceMethod yX0_init) ∈ lw_g := tm_1 (List.mem_of_getElem? (i := 125) rfl) rfl
theorem wd_84 : (Cond.code yX0_init cX0_init 2 none) ∈ lw_g := tm_1 (List.mem_of_getElem? (i := 126) rfl) rfl
theorem wd_85 : (Cond.methodLink RX0 3 objectInit) ∈ lw_g := tm_1 (List.mem_of_getElem? (i := 127) rfl) rfl
theorem wd_86 : (Cond.classLink RX0 9 RX7) ∈ lw_g := tm_1 (List.mem_of_getElem? (i := 128) rfl) rfl
theorem wd_87 : (Cond.fieldLink RX0 14 "ShortFrames$Cutter" "squeezed" "LShortFrames$Row;") ∈ lw_g := tm_1 (List.mem_of_getElem? (i := 131) rfl) rfl
theorem wd_88 : (Cond.fieldLink RX0 20 "ShortFrames$Cutter" "piece" "LShortFrames$Row;") ∈ lw_g := tm_1 (List.mem_of_getElem? (i := 132) rfl) rfl
theorem wd_89 : (Cond.fieldLink RX0 23 "ShortFrames$Cutter" "squeezer" "LShortFrames$Squeezer;") ∈ lw_g := tm_1 (List.mem_of_getElem? (i := 130) rfl) rfl
theorem wd_90 : (Cond.methodLink RX0 11 yX7_init) ∈ lw_g := tm_1 (List.mem_of_getElem? (i := 129) rfl) rfl
theorem wd_91 : (Cond.methodLink RX10 62 yX6_init) ∈ lw_g := tm_1 (List.mem_of_getElem? (i := 142) rfl) rfl
theorem wd_92 : (Cond.instanceMethod yX6_init) ∈ lw_g := tm_1 (List.mem_of_getElem? (i := 143) rfl) rfl
theorem wd_93 : (Cond.code yX6_init cX6_init 3 none) ∈ lw_g := tm_1 (List.mem_of_getElem? (i := 144) rfl) rfl
theorem wd_94 : (Cond.methodLink RX6 3 objectInit) ∈ lw_g := tm_1 (List.mem_of_getElem? (i := 145) rfl) rfl
theorem wd_95 : (Cond.classLink RX6 11 RX2) ∈ lw_g := tm_1 (List.mem_of_getElem? (i := 146) rfl) rfl
theorem wd_96 : (Cond.fieldLink RX6 13 "ShortFrames$Receiver" "heaps" "[LShortFrames$Heap;") ∈ lw_g := tm_1 (List.mem_of_getElem? (i := 181) rfl) rfl
theorem wd_97 : (Cond.fieldLink RX6 17 "ShortFrames$Receiver" "unfolder" "LShortFrames$Unfolder;") ∈ lw_g := tm_1 (List.mem_of_getElem? (i := 180) rfl) rfl
theorem wd_98 : (Cond.instantiable RX2 8) ∈ lw_g := tm_1 (List.mem_of_getElem? (i := 148) rfl) rfl
theorem wd_99 : (Cond.initialized RX2) ∈ lw_g := tm_1 (List.mem_of_getElem? (i := 9) rfl) rfl
theorem wd_100 : (Cond.instanceMethod yX2_init) ∈ lw_g := tm_1 (List.mem_of_getElem? (i := 150) rfl) rfl
theorem wd_101 : (Cond.code yX2_init cX2_init 1 none) ∈ lw_g := tm_1 (List.mem_of_getElem? (i := 151) rfl) rfl
theorem wd_102 : (Cond.methodLink RX2 3 objectInit) ∈ lw_g := tm_1 (List.mem_of_getElem? (i := 152) rfl) rfl
theorem wd_103 : (Cond.classLink RX2 9 RX7) ∈ lw_g := tm_1 (List.mem_of_getElem? (i := 153) rfl) rfl
theorem wd_104 : (Cond.fieldLink RX2 14 "ShortFrames$Heap" "content" "LShortFrames$Row;") ∈ lw_g := tm_1 (List.mem_of_getElem? (i := 155) rfl) rfl
theorem wd_105 : (Cond.fieldLink RX2 20 "ShortFrames$Heap" "lengths" "[I") ∈ lw_g := tm_1 (List.mem_of_getElem? (i := 156) rfl) rfl
theorem wd_106 : (Cond.methodLink RX2 11 yX7_init) ∈ lw_g := tm_1 (List.mem_of_getElem? (i := 154) rfl) rfl
theorem wd_107 : (Cond.methodLink RL 12 yX11_init) ∈ lw_g := tm_4 (List.mem_of_getElem? (i := 18) rfl) rfl
theorem wd_108 : (Cond.instanceMethod yX11_init) ∈ lw_g := tm_4 (List.mem_of_getElem? (i := 19) rfl) rfl
theorem wd_109 : (Cond.code yX11_init cX11_init 3 none) ∈ lw_g := tm_4 (List.mem_of_getElem? (i := 20) rfl) rfl
theorem wd_110 : (Cond.methodLink RX11 1 objectInit) ∈ lw_g := tm_4 (List.mem_of_getElem? (i := 21) rfl) rfl
theorem wd_111 : (Cond.fieldLink RX11 7 "ShortFramesModel" "known" "[Z") ∈ lw_g := tm_4 (List.mem_of_getElem? (i := 30) rfl) rfl
theorem wd_112 : (Cond.fieldLink RX11 13 "ShortFramesModel" "contexts" "[I") ∈ lw_g := tm_4 (List.mem_of_getElem? (i := 31) rfl) rfl
theorem wd_113 : (Cond.fieldLink RX11 17 "ShortFramesModel" "own" "[I") ∈ lw_g := tm_4 (List.mem_of_getElem? (i := 32) rfl) rfl
theorem wd_114 : (Cond.fieldLink RX11 20 "ShortFramesModel" "tape" "[I") ∈ lw_g := tm_4 (List.mem_of_getElem? (i := 33) rfl) rfl
theorem wd_115 : (Cond.fieldLink RX11 23 "ShortFramesModel" "outs" "[I") ∈ lw_g := tm_4 (List.mem_of_getElem? (i := 35) rfl) rfl
theorem wd_116 : (Cond.fieldLink RX11 26 "ShortFramesModel" "row" "[I") ∈ lw_g := tm_4 (List.mem_of_getElem? (i := 37) rfl) rfl
theorem wd_117 : (Cond.fieldLink RX11 29 "ShortFramesModel" "read" "[I") ∈ lw_g := tm_4 (List.mem_of_getElem? (i := 48) rfl) rfl
theorem wd_118 : (Cond.fieldLink RX11 32 "ShortFramesModel" "packet" "[I") ∈ lw_g := tm_4 (List.mem_of_getElem? (i := 53) rfl) rfl
theorem wd_119 : (Cond.fieldLink RX11 35 "ShortFramesModel" "facts" "[I") ∈ lw_g := tm_4 (List.mem_of_getElem? (i := 55) rfl) rfl
theorem wd_120 : (Cond.fieldLink RX11 38 "ShortFramesModel" "toldFacts" "[I") ∈ lw_g := tm_4 (List.mem_of_getElem? (i := 59) rfl) rfl
theorem wd_121 : (Cond.fieldLink RX11 41 "ShortFramesModel" "frames" "[I") ∈ lw_g := tm_4 (List.mem_of_getElem? (i := 60) rfl) rfl
theorem wd_122 : (Cond.fieldLink RX11 44 "ShortFramesModel" "sizes" "[I") ∈ lw_g := tm_4 (List.mem_of_getElem? (i := 61) rfl) rfl
theorem wd_123 : (Cond.fieldLink RX11 47 "ShortFramesModel" "heapSize" "[I") ∈ lw_g := tm_4 (List.mem_of_getElem? (i := 65) rfl) rfl
theorem wd_124 : (Cond.fieldLink RX11 50 "ShortFramesModel" "heapTag" "[I") ∈ lw_g := tm_4 (List.mem_of_getElem? (i := 66) rfl) rfl
theorem wd_125 : (Cond.fieldLink RX11 53 "ShortFramesModel" "heapTime" "[I") ∈ lw_g := tm_4 (List.mem_of_getElem? (i := 67) rfl) rfl
theorem wd_126 : (Cond.fieldLink RX11 56 "ShortFramesModel" "heapBytes" "[I") ∈ lw_g := tm_4 (List.mem_of_getElem? (i := 68) rfl) rfl
theorem wd_127 : (Cond.fieldLink RX11 59 "ShortFramesModel" "parts" "[I") ∈ lw_g := tm_4 (List.mem_of_getElem? (i := 69) rfl) rfl
theorem wd_128 : (Cond.fieldLink RX11 62 "ShortFramesModel" "partAt" "[I") ∈ lw_g := tm_4 (List.mem_of_getElem? (i := 70) rfl) rfl
theorem wd_129 : (Cond.fieldLink RX11 65 "ShortFramesModel" "partSize" "[I") ∈ lw_g := tm_4 (List.mem_of_getElem? (i := 71) rfl) rfl
theorem wd_130 : (Cond.methodLink RX11 68 yX11_link) ∈ lw_g := tm_4 (List.mem_of_getElem? (i := 22) rfl) rfl
theorem wd_131 : (Cond.instanceMethod yX11_link) ∈ lw_g := tm_4 (List.mem_of_getElem? (i := 23) rfl) rfl
theorem wd_132 : (Cond.selects RX11 yX11_link yX11_link) ∈ lw_g := tm_4 (List.mem_of_getElem? (i := 24) rfl) rfl
theorem wd_133 : (Cond.code yX11_link cX11_link 7 (some .int)) ∈ lw_g := tm_4 (List.mem_of_getElem? (i := 25) rfl) rfl
theorem wd_134 : (Cond.constantLong RX11 76 (255)) ∈ lw_g := tm_4 (List.mem_of_getElem? (i := 29) rfl) rfl
theorem wd_135 : (Cond.methodLink RX11 72 yX11_in) ∈ lw_g := tm_4 (List.mem_of_getElem? (i := 26) rfl) rfl
theorem wd_136 : (Cond.static yX11_in) ∈ lw_g := tm_4 (List.mem_of_getElem? (i := 27) rfl) rfl
theorem wd_137 : (Cond.code yX11_in cX11_in 3 (some .boolean)) ∈ lw_g := tm_4 (List.mem_of_getElem? (i := 28) rfl) rfl
theorem wd_138 : (Cond.methodLink RL 15 yX10_context) ∈ lw_g := tm_1 (List.mem_of_getElem? (i := 235) rfl) rfl
theorem wd_139 : (Cond.instanceMethod yX10_context) ∈ lw_g := tm_1 (List.mem_of_getElem? (i := 236) rfl) rfl
theorem wd_140 : (Cond.selects RX10 yX10_context yX10_context) ∈ lw_g := tm_1 (List.mem_of_getElem? (i := 237) rfl) rfl
theorem wd_141 : (Cond.code yX10_context cX10_context 6 (some .int)) ∈ lw_g := tm_1 (List.mem_of_getElem? (i := 238) rfl) rfl
theorem wd_142 : (Cond.methodLink RX10 73 yX3_isThere) ∈ lw_g := tm_1 (List.mem_of_getElem? (i := 239) rfl) rfl
theorem wd_143 : (Cond.instanceMethod yX3_isThere) ∈ lw_g := tm_2 (List.mem_of_getElem? (i := 0) rfl) rfl
theorem wd_144 : (Cond.selects RX3 yX3_isThere yX3_isThere) ∈ lw_g := tm_2 (List.mem_of_getElem? (i := 1) rfl) rfl
theorem wd_145 : (Cond.code yX3_isThere cX3_isThere 2 (some .boolean)) ∈ lw_g := tm_2 (List.mem_of_getElem? (i := 2) rfl) rfl
theorem wd_146 : (Cond.methodLink RX10 77 yX3_setContext) ∈ lw_g := tm_2 (List.mem_of_getElem? (i := 3) rfl) rfl
theorem wd_147 : (Cond.instanceMethod yX3_setContext) ∈ lw_g := tm_2 (List.mem_of_getElem? (i := 4) rfl) rfl
theorem wd_148 : (Cond.selects RX3 yX3_setContext yX3_setContext) ∈ lw_g := tm_2 (List.mem_of_getElem? (i := 5) rfl) rfl
theorem wd_149 : (Cond.code yX3_setContext cX3_setContext 5 none) ∈ lw_g := tm_2 (List.mem_of_getElem? (i := 6) rfl) rfl
theorem wd_150 : (Cond.methodLink RL 19 yX11_context) ∈ lw_g := tm_4 (List.mem_of_getElem? (i := 169) rfl) rfl
theorem wd_151 : (Cond.instanceMethod yX11_context) ∈ lw_g := tm_4 (List.mem_of_getElem? (i := 170) rfl) rfl
theorem wd_152 : (Cond.selects RX11 yX11_context yX11_context) ∈ lw_g := tm_4 (List.mem_of_getElem? (i := 171) rfl) rfl
theorem wd_153 : (Cond.code yX11_context cX11_context 7 (some .int)) ∈ lw_g := tm_4 (List.mem_of_getElem? (i := 172) rfl) rfl
theorem wd_154 : (Cond.methodLink RL 20 yX10_link) ∈ lw_g := tm_2 (List.mem_of_getElem? (i := 7) rfl) rfl
theorem wd_155 : (Cond.instanceMethod yX10_link) ∈ lw_g := tm_2 (List.mem_of_getElem? (i := 8) rfl) rfl
theorem wd_156 : (Cond.selects RX10 yX10_link yX10_link) ∈ lw_g := tm_2 (List.mem_of_getElem? (i := 9) rfl) rfl
theorem wd_157 : (Cond.code yX10_link cX10_link 5 (some .int)) ∈ lw_g := tm_2 (List.mem_of_getElem? (i := 10) rfl) rfl
theorem wd_158 : (Cond.methodLink RX10 81 yX3_setLink) ∈ lw_g := tm_2 (List.mem_of_getElem? (i := 11) rfl) rfl
theorem wd_159 : (Cond.instanceMethod yX3_setLink) ∈ lw_g := tm_2 (List.mem_of_getElem? (i := 12) rfl) rfl
theorem wd_160 : (Cond.selects RX3 yX3_setLink yX3_setLink) ∈ lw_g := tm_2 (List.mem_of_getElem? (i := 13) rfl) rfl
theorem wd_161 : (Cond.code yX3_setLink cX3_setLink 7 none) ∈ lw_g := tm_2 (List.mem_of_getElem? (i := 14) rfl) rfl
theorem wd_162 : (Cond.constantLong RX3 30 (144115188075855872)) ∈ lw_g := tm_2 (List.mem_of_getElem? (i := 15) rfl) rfl
theorem wd_163 : (Cond.constantLong RX3 32 (65535)) ∈ lw_g := tm_2 (List.mem_of_getElem? (i := 16) rfl) rfl
theorem wd_164 : (Cond.methodLink RL 23 yX11_link) ∈ lw_g := tm_4 (List.mem_of_getElem? (i := 173) rfl) rfl
theorem wd_165 : (Cond.methodLink RL 24 yX10_type) ∈ lw_g := tm_2 (List.mem_of_getElem? (i := 17) rfl) rfl
theorem wd_166 : (Cond.instanceMethod yX10_type) ∈ lw_g := tm_2 (List.mem_of_getElem? (i := 18) rfl) rfl
theorem wd_167 : (Cond.selects RX10 yX10_type yX10_type) ∈ lw_g := tm_2 (List.mem_of_getElem? (i := 19) rfl) rfl
theorem wd_168 : (Cond.code yX10_type cX10_type 4 (some .int)) ∈ lw_g := tm_2 (List.mem_of_getElem? (i := 20) rfl) rfl
theorem wd_169 : (Cond.methodLink RX10 84 yX7_takes) ∈ lw_g := tm_2 (List.mem_of_getElem? (i := 21) rfl) rfl
theorem wd_170 : (Cond.instanceMethod yX7_takes) ∈ lw_g := tm_2 (List.mem_of_getElem? (i := 22) rfl) rfl
theorem wd_171 : (Cond.selects RX7 yX7_takes yX7_takes) ∈ lw_g := tm_2 (List.mem_of_getElem? (i := 23) rfl) rfl
theorem wd_172 : (Cond.code yX7_takes cX7_takes 2 (some .boolean)) ∈ lw_g := tm_2 (List.mem_of_getElem? (i := 24) rfl) rfl
theorem wd_173 : (Cond.methodLink RX10 87 yX7_addNumber) ∈ lw_g := tm_2 (List.mem_of_getElem? (i := 25) rfl) rfl
theorem wd_174 : (Cond.instanceMethod yX7_addNumber) ∈ lw_g := tm_2 (List.mem_of_getElem? (i := 26) rfl) rfl
theorem wd_175 : (Cond.selects RX7 yX7_addNumber yX7_addNumber) ∈ lw_g := tm_2 (List.mem_of_getElem? (i := 27) rfl) rfl
theorem wd_176 : (Cond.code yX7_addNumber cX7_addNumber 5 none) ∈ lw_g := tm_2 (List.mem_of_getElem? (i := 28) rfl) rfl
theorem wd_177 : (Cond.methodLink RX7 25 yX7_add) ∈ lw_g := tm_2 (List.mem_of_getElem? (i := 29) rfl) rfl
theorem wd_178 : (Cond.instanceMethod yX7_add) ∈ lw_g := tm_2 (List.mem_of_getElem? (i := 30) rfl) rfl
theorem wd_179 : (Cond.selects RX7 yX7_add yX7_add) ∈ lw_g := tm_2 (List.mem_of_getElem? (i := 31) rfl) rfl
theorem wd_180 : (Cond.code yX7_add cX7_add 2 none) ∈ lw_g := tm_2 (List.mem_of_getElem? (i := 32) rfl) rfl
theorem wd_181 : (Cond.methodLink RX10 91 yX7_length) ∈ lw_g := tm_2 (List.mem_of_getElem? (i := 33) rfl) rfl
theorem wd_182 : (Cond.instanceMethod yX7_length) ∈ lw_g := tm_2 (List.mem_of_getElem? (i := 34) rfl) rfl
theorem wd_183 : (Cond.selects RX7 yX7_length yX7_length) ∈ lw_g := tm_2 (List.mem_of_getElem? (i := 35) rfl) rfl
theorem wd_184 : (Cond.code yX7_length cX7_length 1 (some .int)) ∈ lw_g := tm_2 (List.mem_of_getElem? (i := 36) rfl) rfl
theorem wd_185 : (Cond.methodLink RL 28 yX11_type) ∈ lw_g := tm_4 (List.mem_of_getElem? (i := 174) rfl) rfl
theorem wd_186 : (Cond.instanceMethod yX11_type) ∈ lw_g := tm_4 (List.mem_of_getElem? (i := 175) rfl) rfl
theorem wd_187 : (Cond.selects RX11 yX11_type yX11_type) ∈ lw_g := tm_4 (List.mem_of_getElem? (i := 176) rfl) rfl
theorem wd_188 : (Cond.code yX11_type cX11_type 5 (some .int)) ∈ lw_g := tm_4 (List.mem_of_getElem? (i := 177) rfl) rfl
theorem wd_189 : (Cond.fieldLink RX11 78 "ShortFramesModel" "taped" "I") ∈ lw_g := tm_4 (List.mem_of_getElem? (i := 34) rfl) rfl
theorem wd_190 : (Cond.methodLink RX11 82 yX11_lay) ∈ lw_g := tm_4 (List.mem_of_getElem? (i := 178) rfl) rfl
theorem wd_191 : (Cond.instanceMethod yX11_lay) ∈ lw_g := tm_4 (List.mem_of_getElem? (i := 180) rfl) rfl
theorem wd_192 : (Cond.selects RX11 yX11_lay yX11_lay) ∈ lw_g := tm_0 (List.mem_of_getElem? (i := 25) rfl) rfl
theorem wd_193 : (Cond.code yX11_lay cX11_lay 2 none) ∈ lw_g := tm_4 (List.mem_of_getElem? (i := 181) rfl) rfl
theorem wd_194 : (Cond.methodLink RL 29 yX10_head) ∈ lw_g := tm_2 (List.mem_of_getElem? (i := 37) rfl) rfl
theorem wd_195 : (Cond.instanceMethod yX10_head) ∈ lw_g := tm_2 (List.mem_of_getElem? (i := 38) rfl) rfl
theorem wd_196 : (Cond.selects RX10 yX10_head yX10_head) ∈ lw_g := tm_2 (List.mem_of_getElem? (i := 39) rfl) rfl
theorem wd_197 : (Cond.code yX10_head cX10_head 14 (some .int)) ∈ lw_g := tm_2 (List.mem_of_getElem? (i := 40) rfl) rfl
theorem wd_198 : (Cond.constant RX10 99 (1048575)) ∈ lw_g := tm_2 (List.mem_of_getElem? (i := 44) rfl) rfl
theorem wd_199 : (Cond.methodLink RX10 95 yX10_isOutside) ∈ lw_g := tm_2 (List.mem_of_getElem? (i := 41) rfl) rfl
theorem wd_200 : (Cond.static yX10_isOutside) ∈ lw_g := tm_2 (List.mem_of_getElem? (i := 42) rfl) rfl
theorem wd_201 : (Cond.code yX10_isOutside cX10_isOutside 2 (some .boolean)) ∈ lw_g := tm_2 (List.mem_of_getElem? (i := 43) rfl) rfl
theorem wd_202 : (Cond.methodLink RX10 100 yX5_firstFour) ∈ lw_g := tm_2 (List.mem_of_getElem? (i := 45) rfl) rfl
theorem wd_203 : (Cond.static yX5_firstFour) ∈ lw_g := tm_2 (List.mem_of_getElem? (i := 46) rfl) rfl
theorem wd_204 : (Cond.initialized RX5) ∈ lw_g := tm_1 (List.mem_of_getElem? (i := 11) rfl) rfl
theorem wd_205 : (Cond.code yX5_firstFour cX5_firstFour 2 (some .long)) ∈ lw_g := tm_2 (List.mem_of_getElem? (i := 47) rfl) rfl
theorem wd_206 : (Cond.constantLong RX5 9 (1610612736)) ∈ lw_g := tm_2 (List.mem_of_getElem? (i := 48) rfl) rfl
theorem wd_207 : (Cond.methodLink RX10 106 yX7_add) ∈ lw_g := tm_2 (List.mem_of_getElem? (i := 49) rfl) rfl
theorem wd_208 : (Cond.methodLink RL 33 yX11_head) ∈ lw_g := tm_4 (List.mem_of_getElem? (i := 182) rfl) rfl
theorem wd_209 : (Cond.instanceMethod yX11_head) ∈ lw_g := tm_4 (List.mem_of_getElem? (i := 183) rfl) rfl
theorem wd_210 : (Cond.selects RX11 yX11_head yX11_head) ∈ lw_g := tm_4 (List.mem_of_getElem? (i := 184) rfl) rfl
theorem wd_211 : (Cond.code yX11_head cX11_head 14 (some .int)) ∈ lw_g := tm_4 (List.mem_of_getElem? (i := 185) rfl) rfl
theorem wd_212 : (Cond.constant RX11 86 (1048575)) ∈ lw_g := tm_4 (List.mem_of_getElem? (i := 186) rfl) rfl
theorem wd_213 : (Cond.methodLink RX11 87 yX11_layLong) ∈ lw_g := tm_4 (List.mem_of_getElem? (i := 187) rfl) rfl
theorem wd_214 : (Cond.instanceMethod yX11_layLong) ∈ lw_g := tm_4 (List.mem_of_getElem? (i := 189) rfl) rfl
theorem wd_215 : (Cond.selects RX11 yX11_layLong yX11_layLong) ∈ lw_g := tm_0 (List.mem_of_getElem? (i := 26) rfl) rfl
theorem wd_216 : (Cond.code yX11_layLong cX11_layLong 4 none) ∈ lw_g := tm_4 (List.mem_of_getElem? (i := 190) rfl) rfl
theorem wd_217 : (Cond.methodLink RL 34 yX10_cut) ∈ lw_g := tm_2 (List.mem_of_getElem? (i := 50) rfl) rfl
theorem wd_218 : (Cond.instanceMethod yX10_cut) ∈ lw_g := tm_2 (List.mem_of_getElem? (i := 51) rfl) rfl
theorem wd_219 : (Cond.selects RX10 yX10_cut yX10_cut) ∈ lw_g := tm_2 (List.mem_of_getElem? (i := 52) rfl) rfl
theorem wd_220 : (Cond.code yX10_cut cX10_cut 3 (some .int)) ∈ lw_g := tm_2 (List.mem_of_getElem? (i := 53) rfl) rfl
theorem wd_221 : (Cond.methodLink RX10 109 yX7_shorten) ∈ lw_g := tm_2 (List.mem_of_getElem? (i := 54) rfl) rfl
theorem wd_222 : (Cond.instanceMethod yX7_shorten) ∈ lw_g := tm_2 (List.mem_of_getElem? (i := 55) rfl) rfl
theorem wd_223 : (Cond.selects RX7 yX7_shorten yX7_shorten) ∈ lw_g := tm_2 (List.mem_of_getElem? (i := 56) rfl) rfl
theorem wd_224 : (Cond.code yX7_shorten cX7_shorten 2 none) ∈ lw_g := tm_2 (List.mem_of_getElem? (i := 57) rfl) rfl
theorem wd_225 : (Cond.methodLink RL 38 yX11_cut) ∈ lw_g := tm_4 (List.mem_of_getElem? (i := 191) rfl) rfl
theorem wd_226 : (Cond.instanceMethod yX11_cut) ∈ lw_g := tm_4 (List.mem_of_getElem? (i := 192) rfl) rfl
theorem wd_227 : (Cond.selects RX11 yX11_cut yX11_cut) ∈ lw_g := tm_4 (List.mem_of_getElem? (i := 193) rfl) rfl
theorem wd_228 : (Cond.code yX11_cut cX11_cut 3 (some .int)) ∈ lw_g := tm_4 (List.mem_of_getElem? (i := 194) rfl) rfl
theorem wd_229 : (Cond.methodLink RL 39 yX10_poke) ∈ lw_g := tm_2 (List.mem_of_getElem? (i := 58) rfl) rfl
theorem wd_230 : (Cond.instanceMethod yX10_poke) ∈ lw_g := tm_2 (List.mem_of_getElem? (i := 59) rfl) rfl
theorem wd_231 : (Cond.selects RX10 yX10_poke yX10_poke) ∈ lw_g := tm_2 (List.mem_of_getElem? (i := 60) rfl) rfl
theorem wd_232 : (Cond.code yX10_poke cX10_poke 3 (some .int)) ∈ lw_g := tm_2 (List.mem_of_getElem? (i := 61) rfl) rfl
theorem wd_233 : (Cond.methodLink RX10 112 yX7_has) ∈ lw_g := tm_2 (List.mem_of_getElem? (i := 62) rfl) rfl
theorem wd_234 : (Cond.instanceMethod yX7_has) ∈ lw_g := tm_2 (List.mem_of_getElem? (i := 63) rfl) rfl
theorem wd_235 : (Cond.selects RX7 yX7_has yX7_has) ∈ lw_g := tm_2 (List.mem_of_getElem? (i := 64) rfl) rfl
theorem wd_236 : (Cond.code yX7_has cX7_has 2 (some .boolean)) ∈ lw_g := tm_2 (List.mem_of_getElem? (i := 65) rfl) rfl
theorem wd_237 : (Cond.methodLink RX10 115 yX7_flip) ∈ lw_g := tm_2 (List.mem_of_getElem? (i := 66) rfl) rfl
theorem wd_238 : (Cond.instanceMethod yX7_flip) ∈ lw_g := tm_2 (List.mem_of_getElem? (i := 67) rfl) rfl
theorem wd_239 : (Cond.selects RX7 yX7_flip yX7_flip) ∈ lw_g := tm_2 (List.mem_of_getElem? (i := 68) rfl) rfl
theorem wd_240 : (Cond.code yX7_flip cX7_flip 3 (some .int)) ∈ lw_g := tm_2 (List.mem_of_getElem? (i := 69) rfl) rfl
theorem wd_241 : (Cond.methodLink RX7 17 yX7_at) ∈ lw_g := tm_2 (List.mem_of_getElem? (i := 70) rfl) rfl
theorem wd_242 : (Cond.instanceMethod yX7_at) ∈ lw_g := tm_2 (List.mem_of_getElem? (i := 71) rfl) rfl
theorem wd_243 : (Cond.selects RX7 yX7_at yX7_at) ∈ lw_g := tm_2 (List.mem_of_getElem? (i := 72) rfl) rfl
theorem wd_244 : (Cond.code yX7_at cX7_at 2 (some .int)) ∈ lw_g := tm_2 (List.mem_of_getElem? (i := 73) rfl) rfl
theorem wd_245 : (Cond.methodLink RX7 21 yX7_set) ∈ lw_g := tm_2 (List.mem_of_getElem? (i := 74) rfl) rfl
theorem wd_246 : (Cond.instanceMethod yX7_set) ∈ lw_g := tm_2 (List.mem_of_getElem? (i := 75) rfl) rfl
theorem wd_247 : (Cond.selects RX7 yX7_set yX7_set) ∈ lw_g := tm_2 (List.mem_of_getElem? (i := 76) rfl) rfl
theorem wd_248 : (Cond.code yX7_set cX7_set 3 none) ∈ lw_g := tm_2 (List.mem_of_getElem? (i := 77) rfl) rfl
theorem wd_249 : (Cond.methodLink RL 43 yX11_poke) ∈ lw_g := tm_4 (List.mem_of_getElem? (i := 195) rfl) rfl
theorem wd_250 : (Cond.instanceMethod yX11_poke) ∈ lw_g := tm_4 (List.mem_of_getElem? (i := 196) rfl) rfl
theorem wd_251 : (Cond.selects RX11 yX11_poke yX11_poke) ∈ lw_g := tm_4 (List.mem_of_getElem? (i := 197) rfl) rfl
theorem wd_252 : (Cond.code yX11_poke cX11_poke 3 (some .int)) ∈ lw_g := tm_4 (List.mem_of_getElem? (i := 198) rfl) rfl
theorem wd_253 : (Cond.methodLink RL 44 yX10_take) ∈ lw_g := tm_2 (List.mem_of_getElem? (i := 78) rfl) rfl
theorem wd_254 : (Cond.instanceMethod yX10_take) ∈ lw_g := tm_2 (List.mem_of_getElem? (i := 79) rfl) rfl
theorem wd_255 : (Cond.selects RX10 yX10_take yX10_take) ∈ lw_g := tm_2 (List.mem_of_getElem? (i := 80) rfl) rfl
theorem wd_256 : (Cond.code yX10_take cX10_take 1 (some .int)) ∈ lw_g := tm_2 (List.mem_of_getElem? (i := 81) rfl) rfl
theorem wd_257 : (Cond.methodLink RX10 119 yX7_become) ∈ lw_g := tm_2 (List.mem_of_getElem? (i := 82) rfl) rfl
theorem wd_258 : (Cond.instanceMethod yX7_become) ∈ lw_g := tm_2 (List.mem_of_getElem? (i := 83) rfl) rfl
theorem wd_259 : (Cond.selects RX7 yX7_become yX7_become) ∈ lw_g := tm_2 (List.mem_of_getElem? (i := 84) rfl) rfl
theorem wd_260 : (Cond.code yX7_become cX7_become 2 none) ∈ lw_g := tm_2 (List.mem_of_getElem? (i := 85) rfl) rfl
theorem wd_261 : (Cond.methodLink RX7 29 yX7_length) ∈ lw_g := tm_2 (List.mem_of_getElem? (i := 86) rfl) rfl
theorem wd_262 : (Cond.methodLink RX7 32 yX7_addAll) ∈ lw_g := tm_2 (List.mem_of_getElem? (i := 87) rfl) rfl
theorem wd_263 : (Cond.instanceMethod yX7_addAll) ∈ lw_g := tm_2 (List.mem_of_getElem? (i := 88) rfl) rfl
theorem wd_264 : (Cond.selects RX7 yX7_addAll yX7_addAll) ∈ lw_g := tm_2 (List.mem_of_getElem? (i := 89) rfl) rfl
theorem wd_265 : (Cond.code yX7_addAll cX7_addAll 5 none) ∈ lw_g := tm_2 (List.mem_of_getElem? (i := 90) rfl) rfl
theorem wd_266 : (Cond.methodLink RL 48 yX11_take) ∈ lw_g := tm_4 (List.mem_of_getElem? (i := 199) rfl) rfl
theorem wd_267 : (Cond.instanceMethod yX11_take) ∈ lw_g := tm_4 (List.mem_of_getElem? (i := 200) rfl) rfl
theorem wd_268 : (Cond.selects RX11 yX11_take yX11_take) ∈ lw_g := tm_4 (List.mem_of_getElem? (i := 201) rfl) rfl
theorem wd_269 : (Cond.code yX11_take cX11_take 2 (some .int)) ∈ lw_g := tm_4 (List.mem_of_getElem? (i := 202) rfl) rfl
theorem wd_270 : (Cond.fieldLink RX11 91 "ShortFramesModel" "outed" "I") ∈ lw_g := tm_4 (List.mem_of_getElem? (i := 36) rfl) rfl
theorem wd_271 : (Cond.methodLink RL 49 yX10_out) ∈ lw_g := tm_2 (List.mem_of_getElem? (i := 91) rfl) rfl
theorem wd_272 : (Cond.instanceMethod yX10_out) ∈ lw_g := tm_2 (List.mem_of_getElem? (i := 92) rfl) rfl
theorem wd_273 : (Cond.selects RX10 yX10_out yX10_out) ∈ lw_g := tm_2 (List.mem_of_getElem? (i := 93) rfl) rfl
theorem wd_274 : (Cond.code yX10_out cX10_out 2 (some .int)) ∈ lw_g := tm_2 (List.mem_of_getElem? (i := 94) rfl) rfl
theorem wd_275 : (Cond.methodLink RX10 123 yX10_byteOrLength) ∈ lw_g := tm_2 (List.mem_of_getElem? (i := 95) rfl) rfl
theorem wd_276 : (Cond.static yX10_byteOrLength) ∈ lw_g := tm_2 (List.mem_of_getElem? (i := 96) rfl) rfl
theorem wd_277 : (Cond.code yX10_byteOrLength cX10_byteOrLength 2 (some .int)) ∈ lw_g := tm_2 (List.mem_of_getElem? (i := 97) rfl) rfl
theorem wd_278 : (Cond.methodLink RX10 199 yX7_at) ∈ lw_g := tm_2 (List.mem_of_getElem? (i := 98) rfl) rfl
theorem wd_279 : (Cond.methodLink RL 52 yX11_out) ∈ lw_g := tm_4 (List.mem_of_getElem? (i := 203) rfl) rfl
theorem wd_280 : (Cond.instanceMethod yX11_out) ∈ lw_g := tm_4 (List.mem_of_getElem? (i := 204) rfl) rfl
theorem wd_281 : (Cond.selects RX11 yX11_out yX11_out) ∈ lw_g := tm_4 (List.mem_of_getElem? (i := 205) rfl) rfl
theorem wd_282 : (Cond.code yX11_out cX11_out 2 (some .int)) ∈ lw_g := tm_4 (List.mem_of_getElem? (i := 206) rfl) rfl
theorem wd_283 : (Cond.methodLink RL 53 yX10_squeeze) ∈ lw_g := tm_2 (List.mem_of_getElem? (i := 99) rfl) rfl
theorem wd_284 : (Cond.instanceMethod yX10_squeeze) ∈ lw_g := tm_2 (List.mem_of_getElem? (i := 100) rfl) rfl
theorem wd_285 : (Cond.selects RX10 yX10_squeeze yX10_squeeze) ∈ lw_g := tm_2 (List.mem_of_getElem? (i := 101) rfl) rfl
theorem wd_286 : (Cond.code yX10_squeeze cX10_squeeze 1 (some .int)) ∈ lw_g := tm_2 (List.mem_of_getElem? (i := 102) rfl) rfl
theorem wd_287 : (Cond.methodLink RX10 127 yX5_isPacket) ∈ lw_g := tm_2 (List.mem_of_getElem? (i := 103) rfl) rfl
theorem wd_288 : (Cond.static yX5_isPacket) ∈ lw_g := tm_2 (List.mem_of_getElem? (i := 104) rfl) rfl
theorem wd_289 : (Cond.code yX5_isPacket cX5_isPacket 2 (some .boolean)) ∈ lw_g := tm_2 (List.mem_of_getElem? (i := 105) rfl) rfl
theorem wd_290 : (Cond.methodLink RX5 11 yX7_length) ∈ lw_g := tm_2 (List.mem_of_getElem? (i := 106) rfl) rfl
theorem wd_291 : (Cond.methodLink RX5 17 yX7_at) ∈ lw_g := tm_2 (List.mem_of_getElem? (i := 107) rfl) rfl
theorem wd_292 : (Cond.methodLink RX5 23 yX7_number) ∈ lw_g := tm_2 (List.mem_of_getElem? (i := 108) rfl) rfl
theorem wd_293 : (Cond.instanceMethod yX7_number) ∈ lw_g := tm_2 (List.mem_of_getElem? (i := 109) rfl) rfl
theorem wd_294 : (Cond.selects RX7 yX7_number yX7_number) ∈ lw_g := tm_2 (List.mem_of_getElem? (i := 110) rfl) rfl
theorem wd_295 : (Cond.code yX7_number cX7_number 6 (some .long)) ∈ lw_g := tm_2 (List.mem_of_getElem? (i := 111) rfl) rfl
theorem wd_296 : (Cond.methodLink RX10 131 yX8_write) ∈ lw_g := tm_2 (List.mem_of_getElem? (i := 112) rfl) rfl
theorem wd_297 : (Cond.instanceMethod yX8_write) ∈ lw_g := tm_2 (List.mem_of_getElem? (i := 113) rfl) rfl
theorem wd_298 : (Cond.selects RX8 yX8_write yX8_write) ∈ lw_g := tm_2 (List.mem_of_getElem? (i := 114) rfl) rfl
theorem wd_299 : (Cond.code yX8_write cX8_write 18 (some .int)) ∈ lw_g := tm_2 (List.mem_of_getElem? (i := 115) rfl) rfl
theorem wd_300 : (Cond.methodLink RX8 13 yX5_hasPorts) ∈ lw_g := tm_2 (List.mem_of_getElem? (i := 116) rfl) rfl
theorem wd_301 : (Cond.static yX5_hasPorts) ∈ lw_g := tm_2 (List.mem_of_getElem? (i := 117) rfl) rfl
theorem wd_302 : (Cond.code yX5_hasPorts cX5_hasPorts 2 (some .boolean)) ∈ lw_g := tm_2 (List.mem_of_getElem? (i := 118) rfl) rfl
theorem wd_303 : (Cond.methodLink RX8 19 yX8_trafficOf) ∈ lw_g := tm_2 (List.mem_of_getElem? (i := 119) rfl) rfl
theorem wd_304 : (Cond.static yX8_trafficOf) ∈ lw_g := tm_2 (List.mem_of_getElem? (i := 120) rfl) rfl
theorem wd_305 : (Cond.code yX8_trafficOf cX8_trafficOf 2 (some .int)) ∈ lw_g := tm_2 (List.mem_of_getElem? (i := 121) rfl) rfl
theorem wd_306 : (Cond.methodLink RX8 89 yX5_t) ∈ lw_g := tm_2 (List.mem_of_getElem? (i := 122) rfl) rfl
theorem wd_307 : (Cond.static yX5_t) ∈ lw_g := tm_2 (List.mem_of_getElem? (i := 123) rfl) rfl
theorem wd_308 : (Cond.code yX5_t cX5_t 1 (some .int)) ∈ lw_g := tm_2 (List.mem_of_getElem? (i := 124) rfl) rfl
theorem wd_309 : (Cond.constantLong RX5 27 (255)) ∈ lw_g := tm_2 (List.mem_of_getElem? (i := 125) rfl) rfl
theorem wd_310 : (Cond.methodLink RX8 92 yX5_l) ∈ lw_g := tm_2 (List.mem_of_getElem? (i := 126) rfl) rfl
theorem wd_311 : (Cond.static yX5_l) ∈ lw_g := tm_2 (List.mem_of_getElem? (i := 127) rfl) rfl
theorem wd_312 : (Cond.code yX5_l cX5_l 1 (some .int)) ∈ lw_g := tm_2 (List.mem_of_getElem? (i := 128) rfl) rfl
theorem wd_313 : (Cond.constantLong RX5 29 (1048575)) ∈ lw_g := tm_2 (List.mem_of_getElem? (i := 129) rfl) rfl
theorem wd_314 : (Cond.methodLink RX8 23 yX7_at) ∈ lw_g := tm_2 (List.mem_of_getElem? (i := 130) rfl) rfl
theorem wd_315 : (Cond.methodLink RX8 29 yX8_hopsOf) ∈ lw_g := tm_2 (List.mem_of_getElem? (i := 131) rfl) rfl
theorem wd_316 : (Cond.static yX8_hopsOf) ∈ lw_g := tm_2 (List.mem_of_getElem? (i := 132) rfl) rfl
theorem wd_317 : (Cond.code yX8_hopsOf cX8_hopsOf 1 (some .int)) ∈ lw_g := tm_2 (List.mem_of_getElem? (i := 133) rfl) rfl
theorem wd_318 : (Cond.methodLink RX8 32 yX7_number) ∈ lw_g := tm_2 (List.mem_of_getElem? (i := 134) rfl) rfl
theorem wd_319 : (Cond.methodLink RX8 36 yX4_ofSource) ∈ lw_g := tm_2 (List.mem_of_getElem? (i := 135) rfl) rfl
theorem wd_320 : (Cond.static yX4_ofSource) ∈ lw_g := tm_2 (List.mem_of_getElem? (i := 136) rfl) rfl
theorem wd_321 : (Cond.initialized RX4) ∈ lw_g := tm_1 (List.mem_of_getElem? (i := 12) rfl) rfl
theorem wd_322 : (Cond.code yX4_ofSource cX4_ofSource 5 (some .int)) ∈ lw_g := tm_2 (List.mem_of_getElem? (i := 137) rfl) rfl
theorem wd_323 : (Cond.methodLink RX4 15 yX4_ofOne) ∈ lw_g := tm_2 (List.mem_of_getElem? (i := 138) rfl) rfl
theorem wd_324 : (Cond.static yX4_ofOne) ∈ lw_g := tm_2 (List.mem_of_getElem? (i := 139) rfl) rfl
theorem wd_325 : (Cond.code yX4_ofOne cX4_ofOne 6 (some .int)) ∈ lw_g := tm_2 (List.mem_of_getElem? (i := 140) rfl) rfl
theorem wd_326 : (Cond.constantLong RX4 25 (-108086391056891904)) ∈ lw_g := tm_2 (List.mem_of_getElem? (i := 141) rfl) rfl
theorem wd_327 : (Cond.methodLink RX4 27 yX4_ofLast) ∈ lw_g := tm_2 (List.mem_of_getElem? (i := 142) rfl) rfl
theorem wd_328 : (Cond.static yX4_ofLast) ∈ lw_g := tm_2 (List.mem_of_getElem? (i := 143) rfl) rfl
theorem wd_329 : (Cond.code yX4_ofLast cX4_ofLast 4 (some .int)) ∈ lw_g := tm_2 (List.mem_of_getElem? (i := 144) rfl) rfl
theorem wd_330 : (Cond.constantLong RX4 39 (16776704)) ∈ lw_g := tm_2 (List.mem_of_getElem? (i := 149) rfl) rfl
theorem wd_331 : (Cond.methodLink RX4 35 yX3_own) ∈ lw_g := tm_2 (List.mem_of_getElem? (i := 145) rfl) rfl
theorem wd_332 : (Cond.instanceMethod yX3_own) ∈ lw_g := tm_2 (List.mem_of_getElem? (i := 146) rfl) rfl
theorem wd_333 : (Cond.selects RX3 yX3_own yX3_own) ∈ lw_g := tm_2 (List.mem_of_getElem? (i := 147) rfl) rfl
theorem wd_334 : (Cond.code yX3_own cX3_own 2 (some .long)) ∈ lw_g := tm_2 (List.mem_of_getElem? (i := 148) rfl) rfl
theorem wd_335 : (Cond.methodLink RX4 31 yX3_least) ∈ lw_g := tm_2 (List.mem_of_getElem? (i := 150) rfl) rfl
theorem wd_336 : (Cond.instanceMethod yX3_least) ∈ lw_g := tm_2 (List.mem_of_getElem? (i := 151) rfl) rfl
theorem wd_337 : (Cond.selects RX3 yX3_least yX3_least) ∈ lw_g := tm_2 (List.mem_of_getElem? (i := 152) rfl) rfl
theorem wd_338 : (Cond.code yX3_least cX3_least 4 (some .int)) ∈ lw_g := tm_2 (List.mem_of_getElem? (i := 153) rfl) rfl
theorem wd_339 : (Cond.methodLink RX8 42 yX4_ofGoal) ∈ lw_g := tm_2 (List.mem_of_getElem? (i := 154) rfl) rfl
theorem wd_340 : (Cond.static yX4_ofGoal) ∈ lw_g := tm_2 (List.mem_of_getElem? (i := 155) rfl) rfl
theorem wd_341 : (Cond.code yX4_ofGoal cX4_ofGoal 5 (some .int)) ∈ lw_g := tm_2 (List.mem_of_getElem? (i := 156) rfl) rfl
theorem wd_342 : (Cond.constantLong RX4 19 (255)) ∈ lw_g := tm_2 (List.mem_of_getElem? (i := 157) rfl) rfl
theorem wd_343 : (Cond.methodLink RX4 21 yX4_ofMany) ∈ lw_g := tm_2 (List.mem_of_getElem? (i := 158) rfl) rfl
theorem wd_344 : (Cond.static yX4_ofMany) ∈ lw_g := tm_2 (List.mem_of_getElem? (i := 159) rfl) rfl
theorem wd_345 : (Cond.code yX4_ofMany cX4_ofMany 4 (some .int)) ∈ lw_g := tm_2 (List.mem_of_getElem? (i := 160) rfl) rfl
theorem wd_346 : (Cond.constantLong RX4 41 (281474976710655)) ∈ lw_g := tm_2 (List.mem_of_getElem? (i := 161) rfl) rfl
theorem wd_347 : (Cond.constantLong RX4 43 (2)) ∈ lw_g := tm_2 (List.mem_of_getElem? (i := 162) rfl) rfl
theorem wd_348 : (Cond.methodLink RX8 45 yX8_contextOf) ∈ lw_g := tm_2 (List.mem_of_getElem? (i := 163) rfl) rfl
theorem wd_349 : (Cond.instanceMethod yX8_contextOf) ∈ lw_g := tm_2 (List.mem_of_getElem? (i := 165) rfl) rfl
theorem wd_350 : (Cond.selects RX8 yX8_contextOf yX8_contextOf) ∈ lw_g := tm_0 (List.mem_of_getElem? (i := 0) rfl) rfl
theorem wd_351 : (Cond.code yX8_contextOf cX8_contextOf 4 (some .int)) ∈ lw_g := tm_2 (List.mem_of_getElem? (i := 166) rfl) rfl
theorem wd_352 : (Cond.methodLink RX8 79 yX4_usesContext) ∈ lw_g := tm_2 (List.mem_of_getElem? (i := 167) rfl) rfl
theorem wd_353 : (Cond.static yX4_usesContext) ∈ lw_g := tm_2 (List.mem_of_getElem? (i := 168) rfl) rfl
theorem wd_354 : (Cond.code yX4_usesContext cX4_usesContext 1 (some .boolean)) ∈ lw_g := tm_2 (List.mem_of_getElem? (i := 169) rfl) rfl
theorem wd_355 : (Cond.methodLink RX8 83 yX3_least) ∈ lw_g := tm_2 (List.mem_of_getElem? (i := 170) rfl) rfl
theorem wd_356 : (Cond.methodLink RX8 49 yX7_shorten) ∈ lw_g := tm_2 (List.mem_of_getElem? (i := 171) rfl) rfl
theorem wd_357 : (Cond.methodLink RX8 53 yX7_add) ∈ lw_g := tm_2 (List.mem_of_getElem? (i := 172) rfl) rfl
theorem wd_358 : (Cond.methodLink RX8 56 yX8_writeTraffic) ∈ lw_g := tm_2 (List.mem_of_getElem? (i := 173) rfl) rfl
theorem wd_359 : (Cond.static yX8_writeTraffic) ∈ lw_g := tm_2 (List.mem_of_getElem? (i := 174) rfl) rfl
theorem wd_360 : (Cond.code yX8_writeTraffic cX8_writeTraffic 6 none) ∈ lw_g := tm_2 (List.mem_of_getElem? (i := 175) rfl) rfl
theorem wd_361 : (Cond.methodLink RX8 95 yX7_addNumber) ∈ lw_g := tm_2 (List.mem_of_getElem? (i := 176) rfl) rfl
theorem wd_362 : (Cond.methodLink RX8 60 yX8_writeAddress) ∈ lw_g := tm_2 (List.mem_of_getElem? (i := 177) rfl) rfl
theorem wd_363 : (Cond.static yX8_writeAddress) ∈ lw_g := tm_2 (List.mem_of_getElem? (i := 178) rfl) rfl
theorem wd_364 : (Cond.code yX8_writeAddress cX8_writeAddress 7 none) ∈ lw_g := tm_2 (List.mem_of_getElem? (i := 179) rfl) rfl
theorem wd_365 : (Cond.methodLink RX8 99 yX4_bytesOf) ∈ lw_g := tm_2 (List.mem_of_getElem? (i := 180) rfl) rfl
theorem wd_366 : (Cond.static yX4_bytesOf) ∈ lw_g := tm_2 (List.mem_of_getElem? (i := 181) rfl) rfl
theorem wd_367 : (Cond.code yX4_bytesOf cX4_bytesOf 1 (some .int)) ∈ lw_g := tm_2 (List.mem_of_getElem? (i := 182) rfl) rfl
theorem wd_368 : (Cond.fieldLink RX4 7 "ShortFrames$Mode" "BYTES" "[I") ∈ lw_g := tm_2 (List.mem_of_getElem? (i := 183) rfl) rfl
theorem wd_369 : (Cond.methodLink RX8 64 yX8_writePorts) ∈ lw_g := tm_2 (List.mem_of_getElem? (i := 185) rfl) rfl
theorem wd_370 : (Cond.static yX8_writePorts) ∈ lw_g := tm_2 (List.mem_of_getElem? (i := 186) rfl) rfl
theorem wd_371 : (Cond.code yX8_writePorts cX8_writePorts 4 none) ∈ lw_g := tm_2 (List.mem_of_getElem? (i := 187) rfl) rfl
theorem wd_372 : (Cond.methodLink RX8 68 yX7_length) ∈ lw_g := tm_2 (List.mem_of_getElem? (i := 188) rfl) rfl
theorem wd_373 : (Cond.methodLink RX8 72 yX5_headOf) ∈ lw_g := tm_2 (List.mem_of_getElem? (i := 189) rfl) rfl
theorem wd_374 : (Cond.static yX5_headOf) ∈ lw_g := tm_2 (List.mem_of_getElem? (i := 190) rfl) rfl
theorem wd_375 : (Cond.code yX5_headOf cX5_headOf 1 (some .int)) ∈ lw_g := tm_2 (List.mem_of_getElem? (i := 191) rfl) rfl
theorem wd_376 : (Cond.methodLink RX5 31 yX5_hasPorts) ∈ lw_g := tm_2 (List.mem_of_getElem? (i := 192) rfl) rfl
theorem wd_377 : (Cond.methodLink RX8 75 yX7_addAll) ∈ lw_g := tm_2 (List.mem_of_getElem? (i := 193) rfl) rfl
theorem wd_378 : (Cond.methodLink RL 56 yX11_squeeze) ∈ lw_g := tm_4 (List.mem_of_getElem? (i := 207) rfl) rfl
theorem wd_379 : (Cond.instanceMethod yX11_squeeze) ∈ lw_g := tm_4 (List.mem_of_getElem? (i := 208) rfl) rfl
theorem wd_380 : (Cond.selects RX11 yX11_squeeze yX11_squeeze) ∈ lw_g := tm_4 (List.mem_of_getElem? (i := 209) rfl) rfl
theorem wd_381 : (Cond.code yX11_squeeze cX11_squeeze 1 (some .int)) ∈ lw_g := tm_4 (List.mem_of_getElem? (i := 210) rfl) rfl
theorem wd_382 : (Cond.methodLink RX11 160 yX11_isPacket) ∈ lw_g := tm_4 (List.mem_of_getElem? (i := 211) rfl) rfl
theorem wd_383 : (Cond.instanceMethod yX11_isPacket) ∈ lw_g := tm_4 (List.mem_of_getElem? (i := 213) rfl) rfl
theorem wd_384 : (Cond.selects RX11 yX11_isPacket yX11_isPacket) ∈ lw_g := tm_0 (List.mem_of_getElem? (i := 27) rfl) rfl
theorem wd_385 : (Cond.code yX11_isPacket cX11_isPacket 1 (some .boolean)) ∈ lw_g := tm_4 (List.mem_of_getElem? (i := 214) rfl) rfl
theorem wd_386 : (Cond.methodLink RX11 164 yX11_squeezeTape) ∈ lw_g := tm_4 (List.mem_of_getElem? (i := 215) rfl) rfl
theorem wd_387 : (Cond.instanceMethod yX11_squeezeTape) ∈ lw_g := tm_4 (List.mem_of_getElem? (i := 217) rfl) rfl
theorem wd_388 : (Cond.selects RX11 yX11_squeezeTape yX11_squeezeTape) ∈ lw_g := tm_0 (List.mem_of_getElem? (i := 28) rfl) rfl
theorem wd_389 : (Cond.code yX11_squeezeTape cX11_squeezeTape 10 none) ∈ lw_g := tm_4 (List.mem_of_getElem? (i := 218) rfl) rfl
theorem wd_390 : (Cond.fieldLink RX11 94 "ShortFramesModel" "rowSize" "I") ∈ lw_g := tm_4 (List.mem_of_getElem? (i := 38) rfl) rfl
theorem wd_391 : (Cond.fieldLink RX11 110 "ShortFramesModel" "sc" "I") ∈ lw_g := tm_4 (List.mem_of_getElem? (i := 43) rfl) rfl
theorem wd_392 : (Cond.fieldLink RX11 134 "ShortFramesModel" "dc" "I") ∈ lw_g := tm_4 (List.mem_of_getElem? (i := 47) rfl) rfl
theorem wd_393 : (Cond.fieldLink RX11 104 "ShortFramesModel" "sac" "I") ∈ lw_g := tm_4 (List.mem_of_getElem? (i := 41) rfl) rfl
theorem wd_394 : (Cond.fieldLink RX11 107 "ShortFramesModel" "sam" "I") ∈ lw_g := tm_4 (List.mem_of_getElem? (i := 42) rfl) rfl
theorem wd_395 : (Cond.fieldLink RX11 125 "ShortFramesModel" "m" "I") ∈ lw_g := tm_4 (List.mem_of_getElem? (i := 44) rfl) rfl
theorem wd_396 : (Cond.fieldLink RX11 128 "ShortFramesModel" "dac" "I") ∈ lw_g := tm_4 (List.mem_of_getElem? (i := 45) rfl) rfl
theorem wd_397 : (Cond.fieldLink RX11 131 "ShortFramesModel" "dam" "I") ∈ lw_g := tm_4 (List.mem_of_getElem? (i := 46) rfl) rfl
theorem wd_398 : (Cond.fieldLink RX11 154 "ShortFramesModel" "headSize" "I") ∈ lw_g := tm_4 (List.mem_of_getElem? (i := 39) rfl) rfl
theorem wd_399 : (Cond.fieldLink RX11 157 "ShortFramesModel" "standsFor" "I") ∈ lw_g := tm_4 (List.mem_of_getElem? (i := 40) rfl) rfl
theorem wd_400 : (Cond.methodLink RX11 141 yX11_sorts) ∈ lw_g := tm_4 (List.mem_of_getElem? (i := 219) rfl) rfl
theorem wd_401 : (Cond.instanceMethod yX11_sorts) ∈ lw_g := tm_4 (List.mem_of_getElem? (i := 221) rfl) rfl
theorem wd_402 : (Cond.selects RX11 yX11_sorts yX11_sorts) ∈ lw_g := tm_0 (List.mem_of_getElem? (i := 29) rfl) rfl
theorem wd_403 : (Cond.code yX11_sorts cX11_sorts 1 none) ∈ lw_g := tm_4 (List.mem_of_getElem? (i := 222) rfl) rfl
theorem wd_404 : (Cond.methodLink RX11 113 yX11_isPlain) ∈ lw_g := tm_4 (List.mem_of_getElem? (i := 223) rfl) rfl
theorem wd_405 : (Cond.instanceMethod yX11_isPlain) ∈ lw_g := tm_4 (List.mem_of_getElem? (i := 225) rfl) rfl
theorem wd_406 : (Cond.selects RX11 yX11_isPlain yX11_isPlain) ∈ lw_g := tm_0 (List.mem_of_getElem? (i := 30) rfl) rfl
theorem wd_407 : (Cond.code yX11_isPlain cX11_isPlain 4 (some .boolean)) ∈ lw_g := tm_4 (List.mem_of_getElem? (i := 226) rfl) rfl
theorem wd_408 : (Cond.methodLink RX11 117 yX11_lastsOf) ∈ lw_g := tm_4 (List.mem_of_getElem? (i := 227) rfl) rfl
theorem wd_409 : (Cond.instanceMethod yX11_lastsOf) ∈ lw_g := tm_4 (List.mem_of_getElem? (i := 229) rfl) rfl
theorem wd_410 : (Cond.selects RX11 yX11_lastsOf yX11_lastsOf) ∈ lw_g := tm_0 (List.mem_of_getElem? (i := 31) rfl) rfl
theorem wd_411 : (Cond.code yX11_lastsOf cX11_lastsOf 5 (some .int)) ∈ lw_g := tm_4 (List.mem_of_getElem? (i := 230) rfl) rfl
theorem wd_412 : (Cond.methodLink RX11 97 yX11_isZero) ∈ lw_g := tm_4 (List.mem_of_getElem? (i := 231) rfl) rfl
theorem wd_413 : (Cond.instanceMethod yX11_isZero) ∈ lw_g := tm_4 (List.mem_of_getElem? (i := 233) rfl) rfl
theorem wd_414 : (Cond.selects RX11 yX11_isZero yX11_isZero) ∈ lw_g := tm_0 (List.mem_of_getElem? (i := 32) rfl) rfl
theorem wd_415 : (Cond.code yX11_isZero cX11_isZero 5 (some .boolean)) ∈ lw_g := tm_4 (List.mem_of_getElem? (i := 234) rfl) rfl
theorem wd_416 : (Cond.methodLink RX11 121 yX11_contextOf) ∈ lw_g := tm_4 (List.mem_of_getElem? (i := 235) rfl) rfl
theorem wd_417 : (Cond.instanceMethod yX11_contextOf) ∈ lw_g := tm_4 (List.mem_of_getElem? (i := 237) rfl) rfl
theorem wd_418 : (Cond.selects RX11 yX11_contextOf yX11_contextOf) ∈ lw_g := tm_0 (List.mem_of_getElem? (i := 33) rfl) rfl
theorem wd_419 : (Cond.code yX11_contextOf cX11_contextOf 5 (some .int)) ∈ lw_g := tm_4 (List.mem_of_getElem? (i := 238) rfl) rfl
theorem wd_420 : (Cond.methodLink RX11 137 yX11_groupOf) ∈ lw_g := tm_4 (List.mem_of_getElem? (i := 239) rfl) rfl
theorem wd_421 : (Cond.instanceMethod yX11_groupOf) ∈ lw_g := tm_5 (List.mem_of_getElem? (i := 1) rfl) rfl
theorem wd_422 : (Cond.selects RX11 yX11_groupOf yX11_groupOf) ∈ lw_g := tm_0 (List.mem_of_getElem? (i := 34) rfl) rfl
theorem wd_423 : (Cond.code yX11_groupOf cX11_groupOf 1 (some .int)) ∈ lw_g := tm_5 (List.mem_of_getElem? (i := 2) rfl) rfl
theorem wd_424 : (Cond.methodLink RX11 101 yX11_add) ∈ lw_g := tm_5 (List.mem_of_getElem? (i := 3) rfl) rfl
theorem wd_425 : (Cond.instanceMethod yX11_add) ∈ lw_g := tm_5 (List.mem_of_getElem? (i := 5) rfl) rfl
theorem wd_426 : (Cond.selects RX11 yX11_add yX11_add) ∈ lw_g := tm_0 (List.mem_of_getElem? (i := 35) rfl) rfl
theorem wd_427 : (Cond.code yX11_add cX11_add 2 none) ∈ lw_g := tm_5 (List.mem_of_getElem? (i := 6) rfl) rfl
theorem wd_428 : (Cond.methodLink RX11 144 yX11_addLasts) ∈ lw_g := tm_5 (List.mem_of_getElem? (i := 7) rfl) rfl
theorem wd_429 : (Cond.instanceMethod yX11_addLasts) ∈ lw_g := tm_5 (List.mem_of_getElem? (i := 9) rfl) rfl
theorem wd_430 : (Cond.selects RX11 yX11_addLasts yX11_addLasts) ∈ lw_g := tm_0 (List.mem_of_getElem? (i := 36) rfl) rfl
theorem wd_431 : (Cond.code yX11_addLasts cX11_addLasts 4 none) ∈ lw_g := tm_5 (List.mem_of_getElem? (i := 10) rfl) rfl
theorem wd_432 : (Cond.methodLink RX11 148 yX11_addAll) ∈ lw_g := tm_5 (List.mem_of_getElem? (i := 11) rfl) rfl
theorem wd_433 : (Cond.instanceMethod yX11_addAll) ∈ lw_g := tm_5 (List.mem_of_getElem? (i := 13) rfl) rfl
theorem wd_434 : (Cond.selects RX11 yX11_addAll yX11_addAll) ∈ lw_g := tm_0 (List.mem_of_getElem? (i := 37) rfl) rfl
theorem wd_435 : (Cond.code yX11_addAll cX11_addAll 3 none) ∈ lw_g := tm_5 (List.mem_of_getElem? (i := 14) rfl) rfl
theorem wd_436 : (Cond.methodLink RX11 151 yX11_addPorts) ∈ lw_g := tm_5 (List.mem_of_getElem? (i := 15) rfl) rfl
theorem wd_437 : (Cond.instanceMethod yX11_addPorts) ∈ lw_g := tm_5 (List.mem_of_getElem? (i := 17) rfl) rfl
theorem wd_438 : (Cond.selects RX11 yX11_addPorts yX11_addPorts) ∈ lw_g := tm_0 (List.mem_of_getElem? (i := 38) rfl) rfl
theorem wd_439 : (Cond.code yX11_addPorts cX11_addPorts 3 none) ∈ lw_g := tm_5 (List.mem_of_getElem? (i := 18) rfl) rfl
theorem wd_440 : (Cond.methodLink RX11 167 yX11_rowToOut) ∈ lw_g := tm_5 (List.mem_of_getElem? (i := 19) rfl) rfl
theorem wd_441 : (Cond.instanceMethod yX11_rowToOut) ∈ lw_g := tm_5 (List.mem_of_getElem? (i := 21) rfl) rfl
theorem wd_442 : (Cond.selects RX11 yX11_rowToOut yX11_rowToOut) ∈ lw_g := tm_0 (List.mem_of_getElem? (i := 39) rfl) rfl
theorem wd_443 : (Cond.code yX11_rowToOut cX11_rowToOut 2 none) ∈ lw_g := tm_5 (List.mem_of_getElem? (i := 22) rfl) rfl
theorem wd_444 : (Cond.methodLink RL 57 yX10_unfold) ∈ lw_g := tm_2 (List.mem_of_getElem? (i := 194) rfl) rfl
theorem wd_445 : (Cond.instanceMethod yX10_unfold) ∈ lw_g := tm_2 (List.mem_of_getElem? (i := 195) rfl) rfl
theorem wd_446 : (Cond.selects RX10 yX10_unfold yX10_unfold) ∈ lw_g := tm_2 (List.mem_of_getElem? (i := 196) rfl) rfl
theorem wd_447 : (Cond.code yX10_unfold cX10_unfold 2 (some .int)) ∈ lw_g := tm_2 (List.mem_of_getElem? (i := 197) rfl) rfl
theorem wd_448 : (Cond.methodLink RX10 135 yX9_read) ∈ lw_g := tm_2 (List.mem_of_getElem? (i := 198) rfl) rfl
theorem wd_449 : (Cond.instanceMethod yX9_read) ∈ lw_g := tm_2 (List.mem_of_getElem? (i := 199) rfl) rfl
theorem wd_450 : (Cond.selects RX9 yX9_read yX9_read) ∈ lw_g := tm_2 (List.mem_of_getElem? (i := 200) rfl) rfl
theorem wd_451 : (Cond.code yX9_read cX9_read 5 (some .boolean)) ∈ lw_g := tm_2 (List.mem_of_getElem? (i := 201) rfl) rfl
theorem wd_452 : (Cond.fieldLink RX9 50 "ShortFrames$Unfolder" "at" "I") ∈ lw_g := tm_1 (List.mem_of_getElem? (i := 75) rfl) rfl
theorem wd_453 : (Cond.fieldLink RX9 24 "ShortFrames$Unfolder" "fault" "I") ∈ lw_g := tm_1 (List.mem_of_getElem? (i := 76) rfl) rfl
theorem wd_454 : (Cond.fieldLink RX9 28 "ShortFrames$Unfolder" "place" "I") ∈ lw_g := tm_1 (List.mem_of_getElem? (i := 77) rfl) rfl
theorem wd_455 : (Cond.fieldLink RX9 53 "ShortFrames$Unfolder" "contexts" "I") ∈ lw_g := tm_1 (List.mem_of_getElem? (i := 80) rfl) rfl
theorem wd_456 : (Cond.fieldLink RX9 44 "ShortFrames$Unfolder" "portsForm" "I") ∈ lw_g := tm_1 (List.mem_of_getElem? (i := 81) rfl) rfl
theorem wd_457 : (Cond.fieldLink RX9 47 "ShortFrames$Unfolder" "headBytes" "I") ∈ lw_g := tm_1 (List.mem_of_getElem? (i := 82) rfl) rfl
theorem wd_458 : (Cond.methodLink RX9 56 yX7_becomeZeros) ∈ lw_g := tm_2 (List.mem_of_getElem? (i := 202) rfl) rfl
theorem wd_459 : (Cond.instanceMethod yX7_becomeZeros) ∈ lw_g := tm_2 (List.mem_of_getElem? (i := 203) rfl) rfl
theorem wd_460 : (Cond.selects RX7 yX7_becomeZeros yX7_becomeZeros) ∈ lw_g := tm_2 (List.mem_of_getElem? (i := 204) rfl) rfl
theorem wd_461 : (Cond.code yX7_becomeZeros cX7_becomeZeros 3 none) ∈ lw_g := tm_2 (List.mem_of_getElem? (i := 205) rfl) rfl
theorem wd_462 : (Cond.methodLink RX9 59 yX9_readsForm) ∈ lw_g := tm_2 (List.mem_of_getElem? (i := 206) rfl) rfl
theorem wd_463 : (Cond.instanceMethod yX9_readsForm) ∈ lw_g := tm_2 (List.mem_of_getElem? (i := 208) rfl) rfl
theorem wd_464 : (Cond.selects RX9 yX9_readsForm yX9_readsForm) ∈ lw_g := tm_0 (List.mem_of_getElem? (i := 1) rfl) rfl
theorem wd_465 : (Cond.code yX9_readsForm cX9_readsForm 2 (some .boolean)) ∈ lw_g := tm_2 (List.mem_of_getElem? (i := 209) rfl) rfl
theorem wd_466 : (Cond.fieldLink RX9 98 "ShortFrames$Unfolder" "firstByte" "I") ∈ lw_g := tm_1 (List.mem_of_getElem? (i := 78) rfl) rfl
theorem wd_467 : (Cond.fieldLink RX9 35 "ShortFrames$Unfolder" "secondByte" "I") ∈ lw_g := tm_1 (List.mem_of_getElem? (i := 79) rfl) rfl
theorem wd_468 : (Cond.methodLink RX9 101 yX9_has) ∈ lw_g := tm_2 (List.mem_of_getElem? (i := 210) rfl) rfl
theorem wd_469 : (Cond.instanceMethod yX9_has) ∈ lw_g := tm_2 (List.mem_of_getElem? (i := 212) rfl) rfl
theorem wd_470 : (Cond.selects RX9 yX9_has yX9_has) ∈ lw_g := tm_0 (List.mem_of_getElem? (i := 2) rfl) rfl
theorem wd_471 : (Cond.code yX9_has cX9_has 3 (some .boolean)) ∈ lw_g := tm_2 (List.mem_of_getElem? (i := 213) rfl) rfl
theorem wd_472 : (Cond.methodLink RX9 88 yX7_length) ∈ lw_g := tm_2 (List.mem_of_getElem? (i := 214) rfl) rfl
theorem wd_473 : (Cond.methodLink RX9 91 yX9_fails) ∈ lw_g := tm_2 (List.mem_of_getElem? (i := 215) rfl) rfl
theorem wd_474 : (Cond.instanceMethod yX9_fails) ∈ lw_g := tm_2 (List.mem_of_getElem? (i := 217) rfl) rfl
theorem wd_475 : (Cond.selects RX9 yX9_fails yX9_fails) ∈ lw_g := tm_0 (List.mem_of_getElem? (i := 3) rfl) rfl
theorem wd_476 : (Cond.code yX9_fails cX9_fails 3 (some .boolean)) ∈ lw_g := tm_2 (List.mem_of_getElem? (i := 218) rfl) rfl
theorem wd_477 : (Cond.methodLink RX9 95 yX7_at) ∈ lw_g := tm_2 (List.mem_of_getElem? (i := 219) rfl) rfl
theorem wd_478 : (Cond.methodLink RX9 104 yX9_next) ∈ lw_g := tm_2 (List.mem_of_getElem? (i := 220) rfl) rfl
theorem wd_479 : (Cond.instanceMethod yX9_next) ∈ lw_g := tm_2 (List.mem_of_getElem? (i := 222) rfl) rfl
theorem wd_480 : (Cond.selects RX9 yX9_next yX9_next) ∈ lw_g := tm_0 (List.mem_of_getElem? (i := 4) rfl) rfl
theorem wd_481 : (Cond.code yX9_next cX9_next 3 (some .int)) ∈ lw_g := tm_2 (List.mem_of_getElem? (i := 223) rfl) rfl
theorem wd_482 : (Cond.methodLink RX9 41 yX9_goal) ∈ lw_g := tm_2 (List.mem_of_getElem? (i := 224) rfl) rfl
theorem wd_483 : (Cond.instanceMethod yX9_goal) ∈ lw_g := tm_2 (List.mem_of_getElem? (i := 226) rfl) rfl
theorem wd_484 : (Cond.selects RX9 yX9_goal yX9_goal) ∈ lw_g := tm_0 (List.mem_of_getElem? (i := 5) rfl) rfl
theorem wd_485 : (Cond.code yX9_goal cX9_goal 1 (some .int)) ∈ lw_g := tm_2 (List.mem_of_getElem? (i := 227) rfl) rfl
theorem wd_486 : (Cond.methodLink RX9 63 yX9_readsContexts) ∈ lw_g := tm_2 (List.mem_of_getElem? (i := 228) rfl) rfl
theorem wd_487 : (Cond.instanceMethod yX9_readsContexts) ∈ lw_g := tm_2 (List.mem_of_getElem? (i := 230) rfl) rfl
theorem wd_488 : (Cond.selects RX9 yX9_readsContexts yX9_readsContexts) ∈ lw_g := tm_0 (List.mem_of_getElem? (i := 6) rfl) rfl
theorem wd_489 : (Cond.code yX9_readsContexts cX9_readsContexts 5 (some .boolean)) ∈ lw_g := tm_2 (List.mem_of_getElem? (i := 231) rfl) rfl
theorem wd_490 : (Cond.methodLink RX9 38 yX9_source) ∈ lw_g := tm_2 (List.mem_of_getElem? (i := 232) rfl) rfl
theorem wd_491 : (Cond.instanceMethod yX9_source) ∈ lw_g := tm_2 (List.mem_of_getElem? (i := 234) rfl) rfl
theorem wd_492 : (Cond.selects RX9 yX9_source yX9_source) ∈ lw_g := tm_0 (List.mem_of_getElem? (i := 7) rfl) rfl
theorem wd_493 : (Cond.code yX9_source cX9_source 1 (some .int)) ∈ lw_g := tm_2 (List.mem_of_getElem? (i := 235) rfl) rfl
theorem wd_494 : (Cond.methodLink RX9 110 yX4_usesContext) ∈ lw_g := tm_2 (List.mem_of_getElem? (i := 236) rfl) rfl
theorem wd_495 : (Cond.methodLink RX9 114 yX3_isThere) ∈ lw_g := tm_2 (List.mem_of_getElem? (i := 237) rfl) rfl
theorem wd_496 : (Cond.methodLink RX9 66 yX9_readsTraffic) ∈ lw_g := tm_2 (List.mem_of_getElem? (i := 238) rfl) rfl
theorem wd_497 : (Cond.instanceMethod yX9_readsTraffic) ∈ lw_g := tm_3 (List.mem_of_getElem? (i := 0) rfl) rfl
theorem wd_498 : (Cond.selects RX9 yX9_readsTraffic yX9_readsTraffic) ∈ lw_g := tm_0 (List.mem_of_getElem? (i := 8) rfl) rfl
theorem wd_499 : (Cond.code yX9_readsTraffic cX9_readsTraffic 9 (some .boolean)) ∈ lw_g := tm_3 (List.mem_of_getElem? (i := 1) rfl) rfl
theorem wd_500 : (Cond.constantLong RX9 123 (1048575)) ∈ lw_g := tm_3 (List.mem_of_getElem? (i := 7) rfl) rfl
theorem wd_501 : (Cond.methodLink RX9 31 yX9_traffic) ∈ lw_g := tm_3 (List.mem_of_getElem? (i := 2) rfl) rfl
theorem wd_502 : (Cond.instanceMethod yX9_traffic) ∈ lw_g := tm_3 (List.mem_of_getElem? (i := 4) rfl) rfl
theorem wd_503 : (Cond.selects RX9 yX9_traffic yX9_traffic) ∈ lw_g := tm_0 (List.mem_of_getElem? (i := 9) rfl) rfl
theorem wd_504 : (Cond.code yX9_traffic cX9_traffic 1 (some .int)) ∈ lw_g := tm_3 (List.mem_of_getElem? (i := 5) rfl) rfl
theorem wd_505 : (Cond.methodLink RX9 119 yX7_number) ∈ lw_g := tm_3 (List.mem_of_getElem? (i := 6) rfl) rfl
theorem wd_506 : (Cond.methodLink RX9 125 yX5_firstFour) ∈ lw_g := tm_3 (List.mem_of_getElem? (i := 8) rfl) rfl
theorem wd_507 : (Cond.methodLink RX9 128 yX7_setNumber) ∈ lw_g := tm_3 (List.mem_of_getElem? (i := 9) rfl) rfl
theorem wd_508 : (Cond.instanceMethod yX7_setNumber) ∈ lw_g := tm_3 (List.mem_of_getElem? (i := 10) rfl) rfl
theorem wd_509 : (Cond.selects RX7 yX7_setNumber yX7_setNumber) ∈ lw_g := tm_3 (List.mem_of_getElem? (i := 11) rfl) rfl
theorem wd_510 : (Cond.code yX7_setNumber cX7_setNumber 6 none) ∈ lw_g := tm_3 (List.mem_of_getElem? (i := 12) rfl) rfl
theorem wd_511 : (Cond.methodLink RX9 69 yX9_readsKind) ∈ lw_g := tm_3 (List.mem_of_getElem? (i := 13) rfl) rfl
theorem wd_512 : (Cond.instanceMethod yX9_readsKind) ∈ lw_g := tm_3 (List.mem_of_getElem? (i := 15) rfl) rfl
theorem wd_513 : (Cond.selects RX9 yX9_readsKind yX9_readsKind) ∈ lw_g := tm_0 (List.mem_of_getElem? (i := 10) rfl) rfl
theorem wd_514 : (Cond.code yX9_readsKind cX9_readsKind 2 (some .boolean)) ∈ lw_g := tm_3 (List.mem_of_getElem? (i := 16) rfl) rfl
theorem wd_515 : (Cond.methodLink RX9 132 yX9_ports) ∈ lw_g := tm_3 (List.mem_of_getElem? (i := 17) rfl) rfl
theorem wd_516 : (Cond.instanceMethod yX9_ports) ∈ lw_g := tm_3 (List.mem_of_getElem? (i := 19) rfl) rfl
theorem wd_517 : (Cond.selects RX9 yX9_ports yX9_ports) ∈ lw_g := tm_0 (List.mem_of_getElem? (i := 11) rfl) rfl
theorem wd_518 : (Cond.code yX9_ports cX9_ports 1 (some .boolean)) ∈ lw_g := tm_3 (List.mem_of_getElem? (i := 20) rfl) rfl
theorem wd_519 : (Cond.methodLink RX9 136 yX7_set) ∈ lw_g := tm_3 (List.mem_of_getElem? (i := 21) rfl) rfl
theorem wd_520 : (Cond.methodLink RX9 72 yX9_readsHops) ∈ lw_g := tm_3 (List.mem_of_getElem? (i := 22) rfl) rfl
theorem wd_521 : (Cond.instanceMethod yX9_readsHops) ∈ lw_g := tm_3 (List.mem_of_getElem? (i := 24) rfl) rfl
theorem wd_522 : (Cond.selects RX9 yX9_readsHops yX9_readsHops) ∈ lw_g := tm_0 (List.mem_of_getElem? (i := 12) rfl) rfl
theorem wd_523 : (Cond.code yX9_readsHops cX9_readsHops 4 (some .boolean)) ∈ lw_g := tm_3 (List.mem_of_getElem? (i := 25) rfl) rfl
theorem wd_524 : (Cond.methodLink RX9 77 yX9_readsAddress) ∈ lw_g := tm_3 (List.mem_of_getElem? (i := 26) rfl) rfl
theorem wd_525 : (Cond.instanceMethod yX9_readsAddress) ∈ lw_g := tm_3 (List.mem_of_getElem? (i := 28) rfl) rfl
theorem wd_526 : (Cond.selects RX9 yX9_readsAddress yX9_readsAddress) ∈ lw_g := tm_0 (List.mem_of_getElem? (i := 13) rfl) rfl
theorem wd_527 : (Cond.code yX9_readsAddress cX9_readsAddress 7 (some .boolean)) ∈ lw_g := tm_3 (List.mem_of_getElem? (i := 29) rfl) rfl
theorem wd_528 : (Cond.constantLong RX9 143 (65282)) ∈ lw_g := tm_3 (List.mem_of_getElem? (i := 31) rfl) rfl
theorem wd_529 : (Cond.constantLong RX9 145 (65280)) ∈ lw_g := tm_3 (List.mem_of_getElem? (i := 32) rfl) rfl
theorem wd_530 : (Cond.methodLink RX9 140 yX4_bytesOf) ∈ lw_g := tm_3 (List.mem_of_getElem? (i := 30) rfl) rfl
theorem wd_531 : (Cond.methodLink RX9 147 yX9_firstEight) ∈ lw_g := tm_3 (List.mem_of_getElem? (i := 33) rfl) rfl
theorem wd_532 : (Cond.instanceMethod yX9_firstEight) ∈ lw_g := tm_3 (List.mem_of_getElem? (i := 35) rfl) rfl
theorem wd_533 : (Cond.selects RX9 yX9_firstEight yX9_firstEight) ∈ lw_g := tm_0 (List.mem_of_getElem? (i := 14) rfl) rfl
theorem wd_534 : (Cond.code yX9_firstEight cX9_firstEight 3 (some .long)) ∈ lw_g := tm_3 (List.mem_of_getElem? (i := 36) rfl) rfl
theorem wd_535 : (Cond.constantLong RX9 154 (-108086391056891904)) ∈ lw_g := tm_3 (List.mem_of_getElem? (i := 37) rfl) rfl
theorem wd_536 : (Cond.methodLink RX9 156 yX3_contextOf) ∈ lw_g := tm_3 (List.mem_of_getElem? (i := 38) rfl) rfl
theorem wd_537 : (Cond.instanceMethod yX3_contextOf) ∈ lw_g := tm_3 (List.mem_of_getElem? (i := 39) rfl) rfl
theorem wd_538 : (Cond.selects RX3 yX3_contextOf yX3_contextOf) ∈ lw_g := tm_3 (List.mem_of_getElem? (i := 40) rfl) rfl
theorem wd_539 : (Cond.code yX3_contextOf cX3_contextOf 2 (some .long)) ∈ lw_g := tm_3 (List.mem_of_getElem? (i := 41) rfl) rfl
theorem wd_540 : (Cond.methodLink RX3 26 yX3_isThere) ∈ lw_g := tm_3 (List.mem_of_getElem? (i := 42) rfl) rfl
theorem wd_541 : (Cond.methodLink RX9 150 yX9_lastEight) ∈ lw_g := tm_3 (List.mem_of_getElem? (i := 43) rfl) rfl
theorem wd_542 : (Cond.instanceMethod yX9_lastEight) ∈ lw_g := tm_3 (List.mem_of_getElem? (i := 45) rfl) rfl
theorem wd_543 : (Cond.selects RX9 yX9_lastEight yX9_lastEight) ∈ lw_g := tm_0 (List.mem_of_getElem? (i := 15) rfl) rfl
theorem wd_544 : (Cond.code yX9_lastEight cX9_lastEight 5 (some .long)) ∈ lw_g := tm_3 (List.mem_of_getElem? (i := 46) rfl) rfl
theorem wd_545 : (Cond.constantLong RX9 160 (1099478073344)) ∈ lw_g := tm_3 (List.mem_of_getElem? (i := 47) rfl) rfl
theorem wd_546 : (Cond.methodLink RX9 162 yX3_own) ∈ lw_g := tm_3 (List.mem_of_getElem? (i := 48) rfl) rfl
theorem wd_547 : (Cond.methodLink RX9 81 yX9_readsPorts) ∈ lw_g := tm_3 (List.mem_of_getElem? (i := 49) rfl) rfl
theorem wd_548 : (Cond.instanceMethod yX9_readsPorts) ∈ lw_g := tm_3 (List.mem_of_getElem? (i := 51) rfl) rfl
theorem wd_549 : (Cond.selects RX9 yX9_readsPorts yX9_readsPorts) ∈ lw_g := tm_0 (List.mem_of_getElem? (i := 16) rfl) rfl
theorem wd_550 : (Cond.code yX9_readsPorts cX9_readsPorts 4 (some .boolean)) ∈ lw_g := tm_3 (List.mem_of_getElem? (i := 52) rfl) rfl
theorem wd_551 : (Cond.methodLink RX9 165 yX9_portsOf) ∈ lw_g := tm_3 (List.mem_of_getElem? (i := 53) rfl) rfl
theorem wd_552 : (Cond.static yX9_portsOf) ∈ lw_g := tm_3 (List.mem_of_getElem? (i := 54) rfl) rfl
theorem wd_553 : (Cond.code yX9_portsOf cX9_portsOf 3 (some .long)) ∈ lw_g := tm_3 (List.mem_of_getElem? (i := 55) rfl) rfl
theorem wd_554 : (Cond.constantLong RX9 173 (61440)) ∈ lw_g := tm_3 (List.mem_of_getElem? (i := 56) rfl) rfl
theorem wd_555 : (Cond.constantLong RX9 175 (255)) ∈ lw_g := tm_3 (List.mem_of_getElem? (i := 57) rfl) rfl
theorem wd_556 : (Cond.constantLong RX9 177 (4026531840)) ∈ lw_g := tm_3 (List.mem_of_getElem? (i := 58) rfl) rfl
theorem wd_557 : (Cond.constantLong RX9 179 (65535)) ∈ lw_g := tm_3 (List.mem_of_getElem? (i := 59) rfl) rfl
theorem wd_558 : (Cond.constantLong RX9 181 (61616)) ∈ lw_g := tm_3 (List.mem_of_getElem? (i := 60) rfl) rfl
theorem wd_559 : (Cond.constantLong RX9 183 (15)) ∈ lw_g := tm_3 (List.mem_of_getElem? (i := 61) rfl) rfl
theorem wd_560 : (Cond.methodLink RX9 169 yX7_addNumber) ∈ lw_g := tm_3 (List.mem_of_getElem? (i := 62) rfl) rfl
theorem wd_561 : (Cond.methodLink RX9 84 yX9_readsRest) ∈ lw_g := tm_3 (List.mem_of_getElem? (i := 63) rfl) rfl
theorem wd_562 : (Cond.instanceMethod yX9_readsRest) ∈ lw_g := tm_3 (List.mem_of_getElem? (i := 65) rfl) rfl
theorem wd_563 : (Cond.selects RX9 yX9_readsRest yX9_readsRest) ∈ lw_g := tm_0 (List.mem_of_getElem? (i := 17) rfl) rfl
theorem wd_564 : (Cond.code yX9_readsRest cX9_readsRest 4 (some .boolean)) ∈ lw_g := tm_3 (List.mem_of_getElem? (i := 66) rfl) rfl
theorem wd_565 : (Cond.methodLink RX9 185 yX7_addAll) ∈ lw_g := tm_3 (List.mem_of_getElem? (i := 67) rfl) rfl
theorem wd_566 : (Cond.methodLink RX10 139 yX9_tell) ∈ lw_g := tm_3 (List.mem_of_getElem? (i := 68) rfl) rfl
theorem wd_567 : (Cond.instanceMethod yX9_tell) ∈ lw_g := tm_3 (List.mem_of_getElem? (i := 69) rfl) rfl
theorem wd_568 : (Cond.selects RX9 yX9_tell yX9_tell) ∈ lw_g := tm_3 (List.mem_of_getElem? (i := 70) rfl) rfl
theorem wd_569 : (Cond.code yX9_tell cX9_tell 3 none) ∈ lw_g := tm_3 (List.mem_of_getElem? (i := 71) rfl) rfl
theorem wd_570 : (Cond.methodLink RX10 143 yX9_fault) ∈ lw_g := tm_3 (List.mem_of_getElem? (i := 72) rfl) rfl
theorem wd_571 : (Cond.instanceMethod yX9_fault) ∈ lw_g := tm_3 (List.mem_of_getElem? (i := 73) rfl) rfl
theorem wd_572 : (Cond.selects RX9 yX9_fault yX9_fault) ∈ lw_g := tm_3 (List.mem_of_getElem? (i := 74) rfl) rfl
theorem wd_573 : (Cond.code yX9_fault cX9_fault 1 (some .int)) ∈ lw_g := tm_3 (List.mem_of_getElem? (i := 75) rfl) rfl
theorem wd_574 : (Cond.methodLink RX10 146 yX9_packet) ∈ lw_g := tm_3 (List.mem_of_getElem? (i := 76) rfl) rfl
theorem wd_575 : (Cond.instanceMethod yX9_packet) ∈ lw_g := tm_3 (List.mem_of_getElem? (i := 77) rfl) rfl
theorem wd_576 : (Cond.selects RX9 yX9_packet yX9_packet) ∈ lw_g := tm_3 (List.mem_of_getElem? (i := 78) rfl) rfl
theorem wd_577 : (Cond.code yX9_packet cX9_packet 1 (some (.object "ShortFrames$Row"))) ∈ lw_g := tm_3 (List.mem_of_getElem? (i := 79) rfl) rfl
theorem wd_578 : (Cond.methodLink RL 60 yX11_unfold) ∈ lw_g := tm_5 (List.mem_of_getElem? (i := 23) rfl) rfl
theorem wd_579 : (Cond.instanceMethod yX11_unfold) ∈ lw_g := tm_5 (List.mem_of_getElem? (i := 24) rfl) rfl
theorem wd_580 : (Cond.selects RX11 yX11_unfold yX11_unfold) ∈ lw_g := tm_5 (List.mem_of_getElem? (i := 25) rfl) rfl
theorem wd_581 : (Cond.code yX11_unfold cX11_unfold 3 (some .int)) ∈ lw_g := tm_5 (List.mem_of_getElem? (i := 26) rfl) rfl
theorem wd_582 : (Cond.fieldLink RX11 179 "ShortFramesModel" "readSize" "I") ∈ lw_g := tm_4 (List.mem_of_getElem? (i := 49) rfl) rfl
theorem wd_583 : (Cond.fieldLink RX11 223 "ShortFramesModel" "isTold" "Z") ∈ lw_g := tm_4 (List.mem_of_getElem? (i := 56) rfl) rfl
theorem wd_584 : (Cond.fieldLink RX11 170 "ShortFramesModel" "fault" "I") ∈ lw_g := tm_4 (List.mem_of_getElem? (i := 51) rfl) rfl
theorem wd_585 : (Cond.fieldLink RX11 227 "ShortFramesModel" "toldFault" "I") ∈ lw_g := tm_4 (List.mem_of_getElem? (i := 57) rfl) rfl
theorem wd_586 : (Cond.fieldLink RX11 173 "ShortFramesModel" "place" "I") ∈ lw_g := tm_4 (List.mem_of_getElem? (i := 52) rfl) rfl
theorem wd_587 : (Cond.fieldLink RX11 230 "ShortFramesModel" "toldPlace" "I") ∈ lw_g := tm_4 (List.mem_of_getElem? (i := 58) rfl) rfl
theorem wd_588 : (Cond.methodLink RX11 220 yX11_unfolds) ∈ lw_g := tm_5 (List.mem_of_getElem? (i := 27) rfl) rfl
theorem wd_589 : (Cond.instanceMethod yX11_unfolds) ∈ lw_g := tm_5 (List.mem_of_getElem? (i := 29) rfl) rfl
theorem wd_590 : (Cond.selects RX11 yX11_unfolds yX11_unfolds) ∈ lw_g := tm_0 (List.mem_of_getElem? (i := 40) rfl) rfl
theorem wd_591 : (Cond.code yX11_unfolds cX11_unfolds 13 (some .boolean)) ∈ lw_g := tm_5 (List.mem_of_getElem? (i := 30) rfl) rfl
theorem wd_592 : (Cond.fieldLink RX11 176 "ShortFramesModel" "at" "I") ∈ lw_g := tm_4 (List.mem_of_getElem? (i := 50) rfl) rfl
theorem wd_593 : (Cond.methodLink RX11 188 yX11_next) ∈ lw_g := tm_5 (List.mem_of_getElem? (i := 31) rfl) rfl
theorem wd_594 : (Cond.instanceMethod yX11_next) ∈ lw_g := tm_5 (List.mem_of_getElem? (i := 33) rfl) rfl
theorem wd_595 : (Cond.selects RX11 yX11_next yX11_next) ∈ lw_g := tm_0 (List.mem_of_getElem? (i := 41) rfl) rfl
theorem wd_596 : (Cond.code yX11_next cX11_next 2 (some .int)) ∈ lw_g := tm_5 (List.mem_of_getElem? (i := 34) rfl) rfl
theorem wd_597 : (Cond.methodLink RX11 182 yX11_fails) ∈ lw_g := tm_5 (List.mem_of_getElem? (i := 35) rfl) rfl
theorem wd_598 : (Cond.instanceMethod yX11_fails) ∈ lw_g := tm_5 (List.mem_of_getElem? (i := 37) rfl) rfl
theorem wd_599 : (Cond.selects RX11 yX11_fails yX11_fails) ∈ lw_g := tm_0 (List.mem_of_getElem? (i := 42) rfl) rfl
theorem wd_600 : (Cond.code yX11_fails cX11_fails 3 (some .boolean)) ∈ lw_g := tm_5 (List.mem_of_getElem? (i := 38) rfl) rfl
theorem wd_601 : (Cond.methodLink RX11 191 yX11_unfoldsFirst) ∈ lw_g := tm_5 (List.mem_of_getElem? (i := 39) rfl) rfl
theorem wd_602 : (Cond.instanceMethod yX11_unfoldsFirst) ∈ lw_g := tm_5 (List.mem_of_getElem? (i := 41) rfl) rfl
theorem wd_603 : (Cond.selects RX11 yX11_unfoldsFirst yX11_unfoldsFirst) ∈ lw_g := tm_0 (List.mem_of_getElem? (i := 43) rfl) rfl
theorem wd_604 : (Cond.code yX11_unfoldsFirst cX11_unfoldsFirst 9 (some .boolean)) ∈ lw_g := tm_5 (List.mem_of_getElem? (i := 42) rfl) rfl
theorem wd_605 : (Cond.methodLink RX11 185 yX11_set) ∈ lw_g := tm_5 (List.mem_of_getElem? (i := 43) rfl) rfl
theorem wd_606 : (Cond.instanceMethod yX11_set) ∈ lw_g := tm_5 (List.mem_of_getElem? (i := 45) rfl) rfl
theorem wd_607 : (Cond.selects RX11 yX11_set yX11_set) ∈ lw_g := tm_0 (List.mem_of_getElem? (i := 44) rfl) rfl
theorem wd_608 : (Cond.code yX11_set cX11_set 3 none) ∈ lw_g := tm_5 (List.mem_of_getElem? (i := 46) rfl) rfl
theorem wd_609 : (Cond.methodLink RX11 194 yX11_unfoldSource) ∈ lw_g := tm_5 (List.mem_of_getElem? (i := 47) rfl) rfl
theorem wd_610 : (Cond.instanceMethod yX11_unfoldSource) ∈ lw_g := tm_5 (List.mem_of_getElem? (i := 49) rfl) rfl
theorem wd_611 : (Cond.selects RX11 yX11_unfoldSource yX11_unfoldSource) ∈ lw_g := tm_0 (List.mem_of_getElem? (i := 45) rfl) rfl
theorem wd_612 : (Cond.code yX11_unfoldSource cX11_unfoldSource 3 none) ∈ lw_g := tm_5 (List.mem_of_getElem? (i := 50) rfl) rfl
theorem wd_613 : (Cond.methodLink RX11 210 yX11_fromContext) ∈ lw_g := tm_5 (List.mem_of_getElem? (i := 51) rfl) rfl
theorem wd_614 : (Cond.instanceMethod yX11_fromContext) ∈ lw_g := tm_5 (List.mem_of_getElem? (i := 53) rfl) rfl
theorem wd_615 : (Cond.selects RX11 yX11_fromContext yX11_fromContext) ∈ lw_g := tm_0 (List.mem_of_getElem? (i := 46) rfl) rfl
theorem wd_616 : (Cond.code yX11_fromContext cX11_fromContext 4 none) ∈ lw_g := tm_5 (List.mem_of_getElem? (i := 54) rfl) rfl
theorem wd_617 : (Cond.methodLink RX11 213 yX11_plain) ∈ lw_g := tm_5 (List.mem_of_getElem? (i := 55) rfl) rfl
theorem wd_618 : (Cond.instanceMethod yX11_plain) ∈ lw_g := tm_5 (List.mem_of_getElem? (i := 57) rfl) rfl
theorem wd_619 : (Cond.selects RX11 yX11_plain yX11_plain) ∈ lw_g := tm_0 (List.mem_of_getElem? (i := 47) rfl) rfl
theorem wd_620 : (Cond.code yX11_plain cX11_plain 2 none) ∈ lw_g := tm_5 (List.mem_of_getElem? (i := 58) rfl) rfl
theorem wd_621 : (Cond.methodLink RX11 216 yX11_lasts) ∈ lw_g := tm_5 (List.mem_of_getElem? (i := 59) rfl) rfl
theorem wd_622 : (Cond.instanceMethod yX11_lasts) ∈ lw_g := tm_5 (List.mem_of_getElem? (i := 61) rfl) rfl
theorem wd_623 : (Cond.selects RX11 yX11_lasts yX11_lasts) ∈ lw_g := tm_0 (List.mem_of_getElem? (i := 48) rfl) rfl
theorem wd_624 : (Cond.code yX11_lasts cX11_lasts 5 none) ∈ lw_g := tm_5 (List.mem_of_getElem? (i := 62) rfl) rfl
theorem wd_625 : (Cond.methodLink RX11 197 yX11_unfoldGoal) ∈ lw_g := tm_5 (List.mem_of_getElem? (i := 63) rfl) rfl
theorem wd_626 : (Cond.instanceMethod yX11_unfoldGoal) ∈ lw_g := tm_5 (List.mem_of_getElem? (i := 65) rfl) rfl
theorem wd_627 : (Cond.selects RX11 yX11_unfoldGoal yX11_unfoldGoal) ∈ lw_g := tm_0 (List.mem_of_getElem? (i := 49) rfl) rfl
theorem wd_628 : (Cond.code yX11_unfoldGoal cX11_unfoldGoal 3 none) ∈ lw_g := tm_5 (List.mem_of_getElem? (i := 66) rfl) rfl
theorem wd_629 : (Cond.methodLink RX11 200 yX11_unfoldPorts) ∈ lw_g := tm_5 (List.mem_of_getElem? (i := 67) rfl) rfl
theorem wd_630 : (Cond.instanceMethod yX11_unfoldPorts) ∈ lw_g := tm_5 (List.mem_of_getElem? (i := 69) rfl) rfl
theorem wd_631 : (Cond.selects RX11 yX11_unfoldPorts yX11_unfoldPorts) ∈ lw_g := tm_0 (List.mem_of_getElem? (i := 50) rfl) rfl
theorem wd_632 : (Cond.code yX11_unfoldPorts cX11_unfoldPorts 3 none) ∈ lw_g := tm_5 (List.mem_of_getElem? (i := 70) rfl) rfl
theorem wd_633 : (Cond.methodLink RX11 203 yX11_ends) ∈ lw_g := tm_5 (List.mem_of_getElem? (i := 71) rfl) rfl
theorem wd_634 : (Cond.instanceMethod yX11_ends) ∈ lw_g := tm_5 (List.mem_of_getElem? (i := 73) rfl) rfl
theorem wd_635 : (Cond.selects RX11 yX11_ends yX11_ends) ∈ lw_g := tm_0 (List.mem_of_getElem? (i := 51) rfl) rfl
theorem wd_636 : (Cond.code yX11_ends cX11_ends 9 (some .boolean)) ∈ lw_g := tm_5 (List.mem_of_getElem? (i := 74) rfl) rfl
theorem wd_637 : (Cond.fieldLink RX11 207 "ShortFramesModel" "packetSize" "I") ∈ lw_g := tm_4 (List.mem_of_getElem? (i := 54) rfl) rfl
theorem wd_638 : (Cond.methodLink RX11 233 yX11_packetToOut) ∈ lw_g := tm_5 (List.mem_of_getElem? (i := 75) rfl) rfl
theorem wd_639 : (Cond.instanceMethod yX11_packetToOut) ∈ lw_g := tm_5 (List.mem_of_getElem? (i := 77) rfl) rfl
theorem wd_640 : (Cond.selects RX11 yX11_packetToOut yX11_packetToOut) ∈ lw_g := tm_0 (List.mem_of_getElem? (i := 52) rfl) rfl
theorem wd_641 : (Cond.code yX11_packetToOut cX11_packetToOut 2 none) ∈ lw_g := tm_5 (List.mem_of_getElem? (i := 78) rfl) rfl
theorem wd_642 : (Cond.methodLink RL 61 yX10_told) ∈ lw_g := tm_3 (List.mem_of_getElem? (i := 80) rfl) rfl
theorem wd_643 : (Cond.instanceMethod yX10_told) ∈ lw_g := tm_3 (List.mem_of_getElem? (i := 81) rfl) rfl
theorem wd_644 : (Cond.selects RX10 yX10_told yX10_told) ∈ lw_g := tm_3 (List.mem_of_getElem? (i := 82) rfl) rfl
theorem wd_645 : (Cond.code yX10_told cX10_told 2 (some .int)) ∈ lw_g := tm_3 (List.mem_of_getElem? (i := 83) rfl) rfl
theorem wd_646 : (Cond.methodLink RL 64 yX11_told) ∈ lw_g := tm_5 (List.mem_of_getElem? (i := 79) rfl) rfl
theorem wd_647 : (Cond.instanceMethod yX11_told) ∈ lw_g := tm_5 (List.mem_of_getElem? (i := 80) rfl) rfl
theorem wd_648 : (Cond.selects RX11 yX11_told yX11_told) ∈ lw_g := tm_5 (List.mem_of_getElem? (i := 81) rfl) rfl
theorem wd_649 : (Cond.code yX11_told cX11_told 2 (some .int)) ∈ lw_g := tm_5 (List.mem_of_getElem? (i := 82) rfl) rfl
theorem wd_650 : (Cond.methodLink RL 65 yX10_slice) ∈ lw_g := tm_3 (List.mem_of_getElem? (i := 84) rfl) rfl
theorem wd_651 : (Cond.instanceMethod yX10_slice) ∈ lw_g := tm_3 (List.mem_of_getElem? (i := 85) rfl) rfl
theorem wd_652 : (Cond.selects RX10 yX10_slice yX10_slice) ∈ lw_g := tm_3 (List.mem_of_getElem? (i := 86) rfl) rfl
theorem wd_653 : (Cond.code yX10_slice cX10_slice 3 (some .int)) ∈ lw_g := tm_3 (List.mem_of_getElem? (i := 87) rfl) rfl
theorem wd_654 : (Cond.constant RX10 150 (65535)) ∈ lw_g := tm_3 (List.mem_of_getElem? (i := 88) rfl) rfl
theorem wd_655 : (Cond.methodLink RX10 151 yX0_divide) ∈ lw_g := tm_3 (List.mem_of_getElem? (i := 89) rfl) rfl
theorem wd_656 : (Cond.instanceMethod yX0_divide) ∈ lw_g := tm_3 (List.mem_of_getElem? (i := 90) rfl) rfl
theorem wd_657 : (Cond.selects RX0 yX0_divide yX0_divide) ∈ lw_g := tm_3 (List.mem_of_getElem? (i := 91) rfl) rfl
theorem wd_658 : (Cond.code yX0_divide cX0_divide 8 (some .int)) ∈ lw_g := tm_3 (List.mem_of_getElem? (i := 92) rfl) rfl
theorem wd_659 : (Cond.methodLink RX0 27 yX8_write) ∈ lw_g := tm_3 (List.mem_of_getElem? (i := 93) rfl) rfl
theorem wd_660 : (Cond.methodLink RX0 33 yX7_length) ∈ lw_g := tm_3 (List.mem_of_getElem? (i := 94) rfl) rfl
theorem wd_661 : (Cond.methodLink RX0 37 yX1_clear) ∈ lw_g := tm_3 (List.mem_of_getElem? (i := 95) rfl) rfl
theorem wd_662 : (Cond.instanceMethod yX1_clear) ∈ lw_g := tm_3 (List.mem_of_getElem? (i := 96) rfl) rfl
theorem wd_663 : (Cond.selects RX1 yX1_clear yX1_clear) ∈ lw_g := tm_3 (List.mem_of_getElem? (i := 97) rfl) rfl
theorem wd_664 : (Cond.code yX1_clear cX1_clear 1 none) ∈ lw_g := tm_3 (List.mem_of_getElem? (i := 98) rfl) rfl
theorem wd_665 : (Cond.methodLink RX0 42 yX1_store) ∈ lw_g := tm_3 (List.mem_of_getElem? (i := 99) rfl) rfl
theorem wd_666 : (Cond.instanceMethod yX1_store) ∈ lw_g := tm_3 (List.mem_of_getElem? (i := 100) rfl) rfl
theorem wd_667 : (Cond.selects RX1 yX1_store yX1_store) ∈ lw_g := tm_3 (List.mem_of_getElem? (i := 101) rfl) rfl
theorem wd_668 : (Cond.code yX1_store cX1_store 3 (some .boolean)) ∈ lw_g := tm_3 (List.mem_of_getElem? (i := 102) rfl) rfl
theorem wd_669 : (Cond.methodLink RX1 24 yX7_become) ∈ lw_g := tm_3 (List.mem_of_getElem? (i := 103) rfl) rfl
theorem wd_670 : (Cond.methodLink RX0 46 yX1_size) ∈ lw_g := tm_3 (List.mem_of_getElem? (i := 104) rfl) rfl
theorem wd_671 : (Cond.instanceMethod yX1_size) ∈ lw_g := tm_3 (List.mem_of_getElem? (i := 105) rfl) rfl
theorem wd_672 : (Cond.selects RX1 yX1_size yX1_size) ∈ lw_g := tm_3 (List.mem_of_getElem? (i := 106) rfl) rfl
theorem wd_673 : (Cond.code yX1_size cX1_size 1 (some .int)) ∈ lw_g := tm_3 (List.mem_of_getElem? (i := 107) rfl) rfl
theorem wd_674 : (Cond.methodLink RX0 49 yX0_begin) ∈ lw_g := tm_3 (List.mem_of_getElem? (i := 108) rfl) rfl
theorem wd_675 : (Cond.instanceMethod yX0_begin) ∈ lw_g := tm_3 (List.mem_of_getElem? (i := 110) rfl) rfl
theorem wd_676 : (Cond.selects RX0 yX0_begin yX0_begin) ∈ lw_g := tm_0 (List.mem_of_getElem? (i := 18) rfl) rfl
theorem wd_677 : (Cond.code yX0_begin cX0_begin 4 none) ∈ lw_g := tm_3 (List.mem_of_getElem? (i := 111) rfl) rfl
theorem wd_678 : (Cond.methodLink RX0 70 yX7_shorten) ∈ lw_g := tm_3 (List.mem_of_getElem? (i := 112) rfl) rfl
theorem wd_679 : (Cond.methodLink RX0 73 yX7_addNumber) ∈ lw_g := tm_3 (List.mem_of_getElem? (i := 113) rfl) rfl
theorem wd_680 : (Cond.methodLink RX0 53 yX7_addAll) ∈ lw_g := tm_3 (List.mem_of_getElem? (i := 114) rfl) rfl
theorem wd_681 : (Cond.methodLink RX0 57 yX5_headOf) ∈ lw_g := tm_3 (List.mem_of_getElem? (i := 115) rfl) rfl
theorem wd_682 : (Cond.methodLink RX0 63 yX0_divideRest) ∈ lw_g := tm_3 (List.mem_of_getElem? (i := 116) rfl) rfl
theorem wd_683 : (Cond.instanceMethod yX0_divideRest) ∈ lw_g := tm_3 (List.mem_of_getElem? (i := 118) rfl) rfl
theorem wd_684 : (Cond.selects RX0 yX0_divideRest yX0_divideRest) ∈ lw_g := tm_0 (List.mem_of_getElem? (i := 19) rfl) rfl
theorem wd_685 : (Cond.code yX0_divideRest cX0_divideRest 11 (some .int)) ∈ lw_g := tm_3 (List.mem_of_getElem? (i := 119) rfl) rfl
theorem wd_686 : (Cond.methodLink RX0 67 yX7_add) ∈ lw_g := tm_3 (List.mem_of_getElem? (i := 120) rfl) rfl
theorem wd_687 : (Cond.methodLink RL 68 yX11_slice) ∈ lw_g := tm_5 (List.mem_of_getElem? (i := 83) rfl) rfl
theorem wd_688 : (Cond.instanceMethod yX11_slice) ∈ lw_g := tm_5 (List.mem_of_getElem? (i := 84) rfl) rfl
theorem wd_689 : (Cond.selects RX11 yX11_slice yX11_slice) ∈ lw_g := tm_5 (List.mem_of_getElem? (i := 85) rfl) rfl
theorem wd_690 : (Cond.code yX11_slice cX11_slice 8 (some .int)) ∈ lw_g := tm_5 (List.mem_of_getElem? (i := 86) rfl) rfl
theorem wd_691 : (Cond.constant RX11 239 (65535)) ∈ lw_g := tm_5 (List.mem_of_getElem? (i := 87) rfl) rfl
theorem wd_692 : (Cond.fieldLink RX11 240 "ShortFramesModel" "frameMany" "I") ∈ lw_g := tm_4 (List.mem_of_getElem? (i := 62) rfl) rfl
theorem wd_693 : (Cond.methodLink RX11 236 yX11_addTo) ∈ lw_g := tm_5 (List.mem_of_getElem? (i := 88) rfl) rfl
theorem wd_694 : (Cond.instanceMethod yX11_addTo) ∈ lw_g := tm_5 (List.mem_of_getElem? (i := 90) rfl) rfl
theorem wd_695 : (Cond.selects RX11 yX11_addTo yX11_addTo) ∈ lw_g := tm_0 (List.mem_of_getElem? (i := 53) rfl) rfl
theorem wd_696 : (Cond.code yX11_addTo cX11_addTo 3 none) ∈ lw_g := tm_5 (List.mem_of_getElem? (i := 91) rfl) rfl
theorem wd_697 : (Cond.methodLink RX11 243 yX11_begin) ∈ lw_g := tm_5 (List.mem_of_getElem? (i := 92) rfl) rfl
theorem wd_698 : (Cond.instanceMethod yX11_begin) ∈ lw_g := tm_5 (List.mem_of_getElem? (i := 94) rfl) rfl
theorem wd_699 : (Cond.selects RX11 yX11_begin yX11_begin) ∈ lw_g := tm_0 (List.mem_of_getElem? (i := 54) rfl) rfl
theorem wd_700 : (Cond.code yX11_begin cX11_begin 5 none) ∈ lw_g := tm_5 (List.mem_of_getElem? (i := 95) rfl) rfl
theorem wd_701 : (Cond.methodLink RL 69 yX10_frame) ∈ lw_g := tm_3 (List.mem_of_getElem? (i := 121) rfl) rfl
theorem wd_702 : (Cond.instanceMethod yX10_frame) ∈ lw_g := tm_3 (List.mem_of_getElem? (i := 122) rfl) rfl
theorem wd_703 : (Cond.selects RX10 yX10_frame yX10_frame) ∈ lw_g := tm_3 (List.mem_of_getElem? (i := 123) rfl) rfl
theorem wd_704 : (Cond.code yX10_frame cX10_frame 3 (some .int)) ∈ lw_g := tm_3 (List.mem_of_getElem? (i := 124) rfl) rfl
theorem wd_705 : (Cond.methodLink RX10 155 yX1_has) ∈ lw_g := tm_3 (List.mem_of_getElem? (i := 125) rfl) rfl
theorem wd_706 : (Cond.instanceMethod yX1_has) ∈ lw_g := tm_3 (List.mem_of_getElem? (i := 126) rfl) rfl
theorem wd_707 : (Cond.selects RX1 yX1_has yX1_has) ∈ lw_g := tm_3 (List.mem_of_getElem? (i := 127) rfl) rfl
theorem wd_708 : (Cond.code yX1_has cX1_has 2 (some .boolean)) ∈ lw_g := tm_3 (List.mem_of_getElem? (i := 128) rfl) rfl
theorem wd_709 : (Cond.methodLink RX10 156 yX1_at) ∈ lw_g := tm_3 (List.mem_of_getElem? (i := 129) rfl) rfl
theorem wd_710 : (Cond.instanceMethod yX1_at) ∈ lw_g := tm_3 (List.mem_of_getElem? (i := 130) rfl) rfl
theorem wd_711 : (Cond.selects RX1 yX1_at yX1_at) ∈ lw_g := tm_3 (List.mem_of_getElem? (i := 131) rfl) rfl
theorem wd_712 : (Cond.code yX1_at cX1_at 2 (some (.object "ShortFrames$Row"))) ∈ lw_g := tm_3 (List.mem_of_getElem? (i := 132) rfl) rfl
theorem wd_713 : (Cond.methodLink RL 72 yX11_frame) ∈ lw_g := tm_5 (List.mem_of_getElem? (i := 96) rfl) rfl
theorem wd_714 : (Cond.instanceMethod yX11_frame) ∈ lw_g := tm_5 (List.mem_of_getElem? (i := 97) rfl) rfl
theorem wd_715 : (Cond.selects RX11 yX11_frame yX11_frame) ∈ lw_g := tm_5 (List.mem_of_getElem? (i := 98) rfl) rfl
theorem wd_716 : (Cond.code yX11_frame cX11_frame 3 (some .int)) ∈ lw_g := tm_5 (List.mem_of_getElem? (i := 99) rfl) rfl
theorem wd_717 : (Cond.methodLink RX11 247 yX11_isFrame) ∈ lw_g := tm_5 (List.mem_of_getElem? (i := 100) rfl) rfl
theorem wd_718 : (Cond.instanceMethod yX11_isFrame) ∈ lw_g := tm_5 (List.mem_of_getElem? (i := 102) rfl) rfl
theorem wd_719 : (Cond.selects RX11 yX11_isFrame yX11_isFrame) ∈ lw_g := tm_0 (List.mem_of_getElem? (i := 55) rfl) rfl
theorem wd_720 : (Cond.code yX11_isFrame cX11_isFrame 2 (some .boolean)) ∈ lw_g := tm_5 (List.mem_of_getElem? (i := 103) rfl) rfl
theorem wd_721 : (Cond.methodLink RL 73 yX10_spoil) ∈ lw_g := tm_3 (List.mem_of_getElem? (i := 133) rfl) rfl
theorem wd_722 : (Cond.instanceMethod yX10_spoil) ∈ lw_g := tm_3 (List.mem_of_getElem? (i := 134) rfl) rfl
theorem wd_723 : (Cond.selects RX10 yX10_spoil yX10_spoil) ∈ lw_g := tm_3 (List.mem_of_getElem? (i := 135) rfl) rfl
theorem wd_724 : (Cond.code yX10_spoil cX10_spoil 4 (some .int)) ∈ lw_g := tm_3 (List.mem_of_getElem? (i := 136) rfl) rfl
theorem wd_725 : (Cond.methodLink RL 77 yX11_spoil) ∈ lw_g := tm_5 (List.mem_of_getElem? (i := 104) rfl) rfl
theorem wd_726 : (Cond.instanceMethod yX11_spoil) ∈ lw_g := tm_5 (List.mem_of_getElem? (i := 105) rfl) rfl
theorem wd_727 : (Cond.selects RX11 yX11_spoil yX11_spoil) ∈ lw_g := tm_5 (List.mem_of_getElem? (i := 106) rfl) rfl
theorem wd_728 : (Cond.code yX11_spoil cX11_spoil 4 (some .int)) ∈ lw_g := tm_5 (List.mem_of_getElem? (i := 107) rfl) rfl
theorem wd_729 : (Cond.methodLink RL 78 yX10_put) ∈ lw_g := tm_3 (List.mem_of_getElem? (i := 137) rfl) rfl
theorem wd_730 : (Cond.instanceMethod yX10_put) ∈ lw_g := tm_3 (List.mem_of_getElem? (i := 138) rfl) rfl
theorem wd_731 : (Cond.selects RX10 yX10_put yX10_put) ∈ lw_g := tm_3 (List.mem_of_getElem? (i := 139) rfl) rfl
theorem wd_732 : (Cond.code yX10_put cX10_put 2 (some .int)) ∈ lw_g := tm_3 (List.mem_of_getElem? (i := 140) rfl) rfl
theorem wd_733 : (Cond.methodLink RX10 160 yX1_size) ∈ lw_g := tm_3 (List.mem_of_getElem? (i := 141) rfl) rfl
theorem wd_734 : (Cond.methodLink RX10 163 yX1_store) ∈ lw_g := tm_3 (List.mem_of_getElem? (i := 142) rfl) rfl
theorem wd_735 : (Cond.methodLink RL 81 yX11_put) ∈ lw_g := tm_5 (List.mem_of_getElem? (i := 108) rfl) rfl
theorem wd_736 : (Cond.instanceMethod yX11_put) ∈ lw_g := tm_5 (List.mem_of_getElem? (i := 109) rfl) rfl
theorem wd_737 : (Cond.selects RX11 yX11_put yX11_put) ∈ lw_g := tm_5 (List.mem_of_getElem? (i := 110) rfl) rfl
theorem wd_738 : (Cond.code yX11_put cX11_put 3 (some .int)) ∈ lw_g := tm_5 (List.mem_of_getElem? (i := 111) rfl) rfl
theorem wd_739 : (Cond.methodLink RL 82 yX10_hear) ∈ lw_g := tm_3 (List.mem_of_getElem? (i := 143) rfl) rfl
theorem wd_740 : (Cond.instanceMethod yX10_hear) ∈ lw_g := tm_3 (List.mem_of_getElem? (i := 144) rfl) rfl
theorem wd_741 : (Cond.selects RX10 yX10_hear yX10_hear) ∈ lw_g := tm_3 (List.mem_of_getElem? (i := 145) rfl) rfl
theorem wd_742 : (Cond.code yX10_hear cX10_hear 2 (some .int)) ∈ lw_g := tm_3 (List.mem_of_getElem? (i := 146) rfl) rfl
theorem wd_743 : (Cond.methodLink RX10 167 yX6_listen) ∈ lw_g := tm_3 (List.mem_of_getElem? (i := 147) rfl) rfl
theorem wd_744 : (Cond.instanceMethod yX6_listen) ∈ lw_g := tm_3 (List.mem_of_getElem? (i := 148) rfl) rfl
theorem wd_745 : (Cond.selects RX6 yX6_listen yX6_listen) ∈ lw_g := tm_3 (List.mem_of_getElem? (i := 149) rfl) rfl
theorem wd_746 : (Cond.code yX6_listen cX6_listen 5 (some .int)) ∈ lw_g := tm_3 (List.mem_of_getElem? (i := 150) rfl) rfl
theorem wd_747 : (Cond.fieldLink RX6 57 "ShortFrames$Receiver" "whole" "I") ∈ lw_g := tm_1 (List.mem_of_getElem? (i := 184) rfl) rfl
theorem wd_748 : (Cond.fieldLink RX6 60 "ShortFrames$Receiver" "dropped" "I") ∈ lw_g := tm_1 (List.mem_of_getElem? (i := 186) rfl) rfl
theorem wd_749 : (Cond.methodLink RX6 37 yX7_at) ∈ lw_g := tm_3 (List.mem_of_getElem? (i := 151) rfl) rfl
theorem wd_750 : (Cond.methodLink RX6 43 yX6_hearsAll) ∈ lw_g := tm_3 (List.mem_of_getElem? (i := 152) rfl) rfl
theorem wd_751 : (Cond.instanceMethod yX6_hearsAll) ∈ lw_g := tm_3 (List.mem_of_getElem? (i := 154) rfl) rfl
theorem wd_752 : (Cond.selects RX6 yX6_hearsAll yX6_hearsAll) ∈ lw_g := tm_0 (List.mem_of_getElem? (i := 20) rfl) rfl
theorem wd_753 : (Cond.code yX6_hearsAll cX6_hearsAll 3 (some .int)) ∈ lw_g := tm_3 (List.mem_of_getElem? (i := 155) rfl) rfl
theorem wd_754 : (Cond.methodLink RX6 65 yX9_read) ∈ lw_g := tm_3 (List.mem_of_getElem? (i := 156) rfl) rfl
theorem wd_755 : (Cond.methodLink RX6 69 yX9_packet) ∈ lw_g := tm_3 (List.mem_of_getElem? (i := 157) rfl) rfl
theorem wd_756 : (Cond.methodLink RX6 73 yX7_become) ∈ lw_g := tm_3 (List.mem_of_getElem? (i := 158) rfl) rfl
theorem wd_757 : (Cond.methodLink RX6 47 yX7_length) ∈ lw_g := tm_3 (List.mem_of_getElem? (i := 159) rfl) rfl
theorem wd_758 : (Cond.methodLink RX6 50 yX6_hearsFirst) ∈ lw_g := tm_3 (List.mem_of_getElem? (i := 160) rfl) rfl
theorem wd_759 : (Cond.instanceMethod yX6_hearsFirst) ∈ lw_g := tm_3 (List.mem_of_getElem? (i := 162) rfl) rfl
theorem wd_760 : (Cond.selects RX6 yX6_hearsFirst yX6_hearsFirst) ∈ lw_g := tm_0 (List.mem_of_getElem? (i := 21) rfl) rfl
theorem wd_761 : (Cond.code yX6_hearsFirst cX6_hearsFirst 4 (some .int)) ∈ lw_g := tm_3 (List.mem_of_getElem? (i := 163) rfl) rfl
theorem wd_762 : (Cond.methodLink RX6 77 yX6_zOf) ∈ lw_g := tm_3 (List.mem_of_getElem? (i := 164) rfl) rfl
theorem wd_763 : (Cond.static yX6_zOf) ∈ lw_g := tm_3 (List.mem_of_getElem? (i := 165) rfl) rfl
theorem wd_764 : (Cond.code yX6_zOf cX6_zOf 1 (some .int)) ∈ lw_g := tm_3 (List.mem_of_getElem? (i := 166) rfl) rfl
theorem wd_765 : (Cond.methodLink RX6 81 yX7_number) ∈ lw_g := tm_3 (List.mem_of_getElem? (i := 167) rfl) rfl
theorem wd_766 : (Cond.methodLink RX6 53 yX6_hearsPart) ∈ lw_g := tm_3 (List.mem_of_getElem? (i := 168) rfl) rfl
theorem wd_767 : (Cond.instanceMethod yX6_hearsPart) ∈ lw_g := tm_3 (List.mem_of_getElem? (i := 170) rfl) rfl
theorem wd_768 : (Cond.selects RX6 yX6_hearsPart yX6_hearsPart) ∈ lw_g := tm_0 (List.mem_of_getElem? (i := 22) rfl) rfl
theorem wd_769 : (Cond.code yX6_hearsPart cX6_hearsPart 11 (some .int)) ∈ lw_g := tm_3 (List.mem_of_getElem? (i := 171) rfl) rfl
theorem wd_770 : (Cond.fieldLink RX6 22 "ShortFrames$Receiver" "clock" "I") ∈ lw_g := tm_1 (List.mem_of_getElem? (i := 182) rfl) rfl
theorem wd_771 : (Cond.fieldLink RX6 106 "ShortFrames$Receiver" "anew" "I") ∈ lw_g := tm_1 (List.mem_of_getElem? (i := 190) rfl) rfl
theorem wd_772 : (Cond.methodLink RX6 85 yX6_dropLateHeaps) ∈ lw_g := tm_3 (List.mem_of_getElem? (i := 172) rfl) rfl
theorem wd_773 : (Cond.instanceMethod yX6_dropLateHeaps) ∈ lw_g := tm_3 (List.mem_of_getElem? (i := 174) rfl) rfl
theorem wd_774 : (Cond.selects RX6 yX6_dropLateHeaps yX6_dropLateHeaps) ∈ lw_g := tm_0 (List.mem_of_getElem? (i := 23) rfl) rfl
theorem wd_775 : (Cond.code yX6_dropLateHeaps cX6_dropLateHeaps 2 none) ∈ lw_g := tm_3 (List.mem_of_getElem? (i := 175) rfl) rfl
theorem wd_776 : (Cond.fieldLink RX6 126 "ShortFrames$Receiver" "late" "I") ∈ lw_g := tm_1 (List.mem_of_getElem? (i := 188) rfl) rfl
theorem wd_777 : (Cond.methodLink RX6 122 yX2_beganBy) ∈ lw_g := tm_3 (List.mem_of_getElem? (i := 176) rfl) rfl
theorem wd_778 : (Cond.instanceMethod yX2_beganBy) ∈ lw_g := tm_3 (List.mem_of_getElem? (i := 177) rfl) rfl
theorem wd_779 : (Cond.selects RX2 yX2_beganBy yX2_beganBy) ∈ lw_g := tm_3 (List.mem_of_getElem? (i := 178) rfl) rfl
theorem wd_780 : (Cond.code yX2_beganBy cX2_beganBy 2 (some .boolean)) ∈ lw_g := tm_3 (List.mem_of_getElem? (i := 179) rfl) rfl
theorem wd_781 : (Cond.fieldLink RX2 24 "ShortFrames$Heap" "there" "Z") ∈ lw_g := tm_1 (List.mem_of_getElem? (i := 157) rfl) rfl
theorem wd_782 : (Cond.fieldLink RX2 35 "ShortFrames$Heap" "time" "I") ∈ lw_g := tm_1 (List.mem_of_getElem? (i := 160) rfl) rfl
theorem wd_783 : (Cond.methodLink RX6 119 yX2_end) ∈ lw_g := tm_3 (List.mem_of_getElem? (i := 180) rfl) rfl
theorem wd_784 : (Cond.instanceMethod yX2_end) ∈ lw_g := tm_3 (List.mem_of_getElem? (i := 181) rfl) rfl
theorem wd_785 : (Cond.selects RX2 yX2_end yX2_end) ∈ lw_g := tm_3 (List.mem_of_getElem? (i := 182) rfl) rfl
theorem wd_786 : (Cond.code yX2_end cX2_end 1 none) ∈ lw_g := tm_3 (List.mem_of_getElem? (i := 183) rfl) rfl
theorem wd_787 : (Cond.methodLink RX6 88 yX6_indexFor) ∈ lw_g := tm_3 (List.mem_of_getElem? (i := 184) rfl) rfl
theorem wd_788 : (Cond.instanceMethod yX6_indexFor) ∈ lw_g := tm_3 (List.mem_of_getElem? (i := 186) rfl) rfl
theorem wd_789 : (Cond.selects RX6 yX6_indexFor yX6_indexFor) ∈ lw_g := tm_0 (List.mem_of_getElem? (i := 24) rfl) rfl
theorem wd_790 : (Cond.code yX6_indexFor cX6_indexFor 5 (some .int)) ∈ lw_g := tm_3 (List.mem_of_getElem? (i := 187) rfl) rfl
theorem wd_791 : (Cond.methodLink RX6 92 yX2_isOf) ∈ lw_g := tm_3 (List.mem_of_getElem? (i := 188) rfl) rfl
theorem wd_792 : (Cond.instanceMethod yX2_isOf) ∈ lw_g := tm_3 (List.mem_of_getElem? (i := 189) rfl) rfl
theorem wd_793 : (Cond.selects RX2 yX2_isOf yX2_isOf) ∈ lw_g := tm_3 (List.mem_of_getElem? (i := 190) rfl) rfl
theorem wd_794 : (Cond.code yX2_isOf cX2_isOf 3 (some .boolean)) ∈ lw_g := tm_3 (List.mem_of_getElem? (i := 191) rfl) rfl
theorem wd_795 : (Cond.fieldLink RX2 28 "ShortFrames$Heap" "z" "I") ∈ lw_g := tm_1 (List.mem_of_getElem? (i := 158) rfl) rfl
theorem wd_796 : (Cond.fieldLink RX2 32 "ShortFrames$Heap" "tag" "I") ∈ lw_g := tm_1 (List.mem_of_getElem? (i := 159) rfl) rfl
theorem wd_797 : (Cond.methodLink RX6 26 yX2_isThere) ∈ lw_g := tm_3 (List.mem_of_getElem? (i := 192) rfl) rfl
theorem wd_798 : (Cond.instanceMethod yX2_isThere) ∈ lw_g := tm_3 (List.mem_of_getElem? (i := 193) rfl) rfl
theorem wd_799 : (Cond.selects RX2 yX2_isThere yX2_isThere) ∈ lw_g := tm_3 (List.mem_of_getElem? (i := 194) rfl) rfl
theorem wd_800 : (Cond.code yX2_isThere cX2_isThere 1 (some .boolean)) ∈ lw_g := tm_3 (List.mem_of_getElem? (i := 195) rfl) rfl
theorem wd_801 : (Cond.methodLink RX6 96 yX2_begin) ∈ lw_g := tm_3 (List.mem_of_getElem? (i := 196) rfl) rfl
theorem wd_802 : (Cond.instanceMethod yX2_begin) ∈ lw_g := tm_3 (List.mem_of_getElem? (i := 197) rfl) rfl
theorem wd_803 : (Cond.selects RX2 yX2_begin yX2_begin) ∈ lw_g := tm_3 (List.mem_of_getElem? (i := 198) rfl) rfl
theorem wd_804 : (Cond.code yX2_begin cX2_begin 5 none) ∈ lw_g := tm_3 (List.mem_of_getElem? (i := 199) rfl) rfl
theorem wd_805 : (Cond.fieldLink RX2 38 "ShortFrames$Heap" "parts" "I") ∈ lw_g := tm_1 (List.mem_of_getElem? (i := 161) rfl) rfl
theorem wd_806 : (Cond.fieldLink RX2 41 "ShortFrames$Heap" "bytes" "I") ∈ lw_g := tm_1 (List.mem_of_getElem? (i := 162) rfl) rfl
theorem wd_807 : (Cond.methodLink RX2 44 yX7_becomeZeros) ∈ lw_g := tm_3 (List.mem_of_getElem? (i := 200) rfl) rfl
theorem wd_808 : (Cond.methodLink RX6 100 yX2_hasJust) ∈ lw_g := tm_3 (List.mem_of_getElem? (i := 201) rfl) rfl
theorem wd_809 : (Cond.instanceMethod yX2_hasJust) ∈ lw_g := tm_3 (List.mem_of_getElem? (i := 202) rfl) rfl
theorem wd_810 : (Cond.selects RX2 yX2_hasJust yX2_hasJust) ∈ lw_g := tm_3 (List.mem_of_getElem? (i := 203) rfl) rfl
theorem wd_811 : (Cond.code yX2_hasJust cX2_hasJust 4 (some .boolean)) ∈ lw_g := tm_3 (List.mem_of_getElem? (i := 204) rfl) rfl
theorem wd_812 : (Cond.methodLink RX6 103 yX2_meets) ∈ lw_g := tm_3 (List.mem_of_getElem? (i := 205) rfl) rfl
theorem wd_813 : (Cond.instanceMethod yX2_meets) ∈ lw_g := tm_3 (List.mem_of_getElem? (i := 206) rfl) rfl
theorem wd_814 : (Cond.selects RX2 yX2_meets yX2_meets) ∈ lw_g := tm_3 (List.mem_of_getElem? (i := 207) rfl) rfl
theorem wd_815 : (Cond.code yX2_meets cX2_meets 5 (some .boolean)) ∈ lw_g := tm_3 (List.mem_of_getElem? (i := 208) rfl) rfl
theorem wd_816 : (Cond.methodLink RX6 109 yX2_keep) ∈ lw_g := tm_3 (List.mem_of_getElem? (i := 209) rfl) rfl
theorem wd_817 : (Cond.instanceMethod yX2_keep) ∈ lw_g := tm_3 (List.mem_of_getElem? (i := 210) rfl) rfl
theorem wd_818 : (Cond.selects RX2 yX2_keep yX2_keep) ∈ lw_g := tm_3 (List.mem_of_getElem? (i := 211) rfl) rfl
theorem wd_819 : (Cond.code yX2_keep cX2_keep 7 none) ∈ lw_g := tm_3 (List.mem_of_getElem? (i := 212) rfl) rfl
theorem wd_820 : (Cond.methodLink RX2 47 yX7_length) ∈ lw_g := tm_3 (List.mem_of_getElem? (i := 213) rfl) rfl
theorem wd_821 : (Cond.methodLink RX2 51 yX7_at) ∈ lw_g := tm_3 (List.mem_of_getElem? (i := 214) rfl) rfl
theorem wd_822 : (Cond.methodLink RX2 55 yX7_set) ∈ lw_g := tm_3 (List.mem_of_getElem? (i := 215) rfl) rfl
theorem wd_823 : (Cond.methodLink RX6 113 yX2_isWhole) ∈ lw_g := tm_3 (List.mem_of_getElem? (i := 216) rfl) rfl
theorem wd_824 : (Cond.instanceMethod yX2_isWhole) ∈ lw_g := tm_3 (List.mem_of_getElem? (i := 217) rfl) rfl
theorem wd_825 : (Cond.selects RX2 yX2_isWhole yX2_isWhole) ∈ lw_g := tm_3 (List.mem_of_getElem? (i := 218) rfl) rfl
theorem wd_826 : (Cond.code yX2_isWhole cX2_isWhole 1 (some .boolean)) ∈ lw_g := tm_3 (List.mem_of_getElem? (i := 219) rfl) rfl
theorem wd_827 : (Cond.methodLink RX6 116 yX2_content) ∈ lw_g := tm_3 (List.mem_of_getElem? (i := 220) rfl) rfl
theorem wd_828 : (Cond.instanceMethod yX2_content) ∈ lw_g := tm_3 (List.mem_of_getElem? (i := 221) rfl) rfl
theorem wd_829 : (Cond.selects RX2 yX2_content yX2_content) ∈ lw_g := tm_3 (List.mem_of_getElem? (i := 222) rfl) rfl
theorem wd_830 : (Cond.code yX2_content cX2_content 1 (some (.object "ShortFrames$Row"))) ∈ lw_g := tm_3 (List.mem_of_getElem? (i := 223) rfl) rfl
theorem wd_831 : (Cond.methodLink RL 85 yX11_hear) ∈ lw_g := tm_5 (List.mem_of_getElem? (i := 112) rfl) rfl
theorem wd_832 : (Cond.instanceMethod yX11_hear) ∈ lw_g := tm_5 (List.mem_of_getElem? (i := 113) rfl) rfl
theorem wd_833 : (Cond.selects RX11 yX11_hear yX11_hear) ∈ lw_g := tm_5 (List.mem_of_getElem? (i := 114) rfl) rfl
theorem wd_834 : (Cond.code yX11_hear cX11_hear 8 (some .int)) ∈ lw_g := tm_5 (List.mem_of_getElem? (i := 115) rfl) rfl
theorem wd_835 : (Cond.fieldLink RX11 262 "ShortFramesModel" "whole" "I") ∈ lw_g := tm_4 (List.mem_of_getElem? (i := 72) rfl) rfl
theorem wd_836 : (Cond.methodLink RX11 256 yX11_reads) ∈ lw_g := tm_5 (List.mem_of_getElem? (i := 116) rfl) rfl
theorem wd_837 : (Cond.instanceMethod yX11_reads) ∈ lw_g := tm_5 (List.mem_of_getElem? (i := 118) rfl) rfl
theorem wd_838 : (Cond.selects RX11 yX11_reads yX11_reads) ∈ lw_g := tm_0 (List.mem_of_getElem? (i := 56) rfl) rfl
theorem wd_839 : (Cond.code yX11_reads cX11_reads 4 none) ∈ lw_g := tm_5 (List.mem_of_getElem? (i := 119) rfl) rfl
theorem wd_840 : (Cond.methodLink RX11 259 yX11_drops) ∈ lw_g := tm_5 (List.mem_of_getElem? (i := 120) rfl) rfl
theorem wd_841 : (Cond.instanceMethod yX11_drops) ∈ lw_g := tm_5 (List.mem_of_getElem? (i := 122) rfl) rfl
theorem wd_842 : (Cond.selects RX11 yX11_drops yX11_drops) ∈ lw_g := tm_0 (List.mem_of_getElem? (i := 57) rfl) rfl
theorem wd_843 : (Cond.code yX11_drops cX11_drops 1 (some .int)) ∈ lw_g := tm_5 (List.mem_of_getElem? (i := 123) rfl) rfl
theorem wd_844 : (Cond.fieldLink RX11 253 "ShortFramesModel" "dropped" "I") ∈ lw_g := tm_4 (List.mem_of_getElem? (i := 73) rfl) rfl
theorem wd_845 : (Cond.methodLink RX11 265 yX11_hears) ∈ lw_g := tm_5 (List.mem_of_getElem? (i := 124) rfl) rfl
theorem wd_846 : (Cond.instanceMethod yX11_hears) ∈ lw_g := tm_5 (List.mem_of_getElem? (i := 126) rfl) rfl
theorem wd_847 : (Cond.selects RX11 yX11_hears yX11_hears) ∈ lw_g := tm_0 (List.mem_of_getElem? (i := 58) rfl) rfl
theorem wd_848 : (Cond.code yX11_hears cX11_hears 9 (some .int)) ∈ lw_g := tm_5 (List.mem_of_getElem? (i := 127) rfl) rfl
theorem wd_849 : (Cond.fieldLink RX11 250 "ShortFramesModel" "heaps" "I") ∈ lw_g := tm_4 (List.mem_of_getElem? (i := 64) rfl) rfl
theorem wd_850 : (Cond.fieldLink RX11 269 "ShortFramesModel" "clock" "I") ∈ lw_g := tm_4 (List.mem_of_getElem? (i := 63) rfl) rfl
theorem wd_851 : (Cond.fieldLink RX11 275 "ShortFramesModel" "late" "I") ∈ lw_g := tm_4 (List.mem_of_getElem? (i := 74) rfl) rfl
theorem wd_852 : (Cond.fieldLink RX11 278 "ShortFramesModel" "anew" "I") ∈ lw_g := tm_4 (List.mem_of_getElem? (i := 75) rfl) rfl
theorem wd_853 : (Cond.methodLink RX11 272 yX11_goes) ∈ lw_g := tm_5 (List.mem_of_getElem? (i := 128) rfl) rfl
theorem wd_854 : (Cond.instanceMethod yX11_goes) ∈ lw_g := tm_5 (List.mem_of_getElem? (i := 130) rfl) rfl
theorem wd_855 : (Cond.selects RX11 yX11_goes yX11_goes) ∈ lw_g := tm_0 (List.mem_of_getElem? (i := 59) rfl) rfl
theorem wd_856 : (Cond.code yX11_goes cX11_goes 4 none) ∈ lw_g := tm_5 (List.mem_of_getElem? (i := 131) rfl) rfl
theorem wd_857 : (Cond.methodLink RL 86 yX10_pass) ∈ lw_g := tm_3 (List.mem_of_getElem? (i := 224) rfl) rfl
theorem wd_858 : (Cond.instanceMethod yX10_pass) ∈ lw_g := tm_3 (List.mem_of_getElem? (i := 225) rfl) rfl
theorem wd_859 : (Cond.selects RX10 yX10_pass yX10_pass) ∈ lw_g := tm_3 (List.mem_of_getElem? (i := 226) rfl) rfl
theorem wd_860 : (Cond.code yX10_pass cX10_pass 2 (some .int)) ∈ lw_g := tm_3 (List.mem_of_getElem? (i := 227) rfl) rfl
theorem wd_861 : (Cond.methodLink RX10 170 yX6_goOn) ∈ lw_g := tm_3 (List.mem_of_getElem? (i := 228) rfl) rfl
theorem wd_862 : (Cond.instanceMethod yX6_goOn) ∈ lw_g := tm_3 (List.mem_of_getElem? (i := 229) rfl) rfl
theorem wd_863 : (Cond.selects RX6 yX6_goOn yX6_goOn) ∈ lw_g := tm_3 (List.mem_of_getElem? (i := 230) rfl) rfl
theorem wd_864 : (Cond.code yX6_goOn cX6_goOn 2 (some .int)) ∈ lw_g := tm_3 (List.mem_of_getElem? (i := 231) rfl) rfl
theorem wd_865 : (Cond.methodLink RL 89 yX11_pass) ∈ lw_g := tm_5 (List.mem_of_getElem? (i := 132) rfl) rfl
theorem wd_866 : (Cond.instanceMethod yX11_pass) ∈ lw_g := tm_5 (List.mem_of_getElem? (i := 133) rfl) rfl
theorem wd_867 : (Cond.selects RX11 yX11_pass yX11_pass) ∈ lw_g := tm_5 (List.mem_of_getElem? (i := 134) rfl) rfl
theorem wd_868 : (Cond.code yX11_pass cX11_pass 2 (some .int)) ∈ lw_g := tm_5 (List.mem_of_getElem? (i := 135) rfl) rfl
theorem wd_869 : (Cond.methodLink RL 90 yX10_count) ∈ lw_g := tm_3 (List.mem_of_getElem? (i := 232) rfl) rfl
theorem wd_870 : (Cond.instanceMethod yX10_count) ∈ lw_g := tm_3 (List.mem_of_getElem? (i := 233) rfl) rfl
theorem wd_871 : (Cond.selects RX10 yX10_count yX10_count) ∈ lw_g := tm_3 (List.mem_of_getElem? (i := 234) rfl) rfl
theorem wd_872 : (Cond.code yX10_count cX10_count 2 (some .int)) ∈ lw_g := tm_3 (List.mem_of_getElem? (i := 235) rfl) rfl
theorem wd_873 : (Cond.methodLink RX10 174 yX6_heaps) ∈ lw_g := tm_3 (List.mem_of_getElem? (i := 236) rfl) rfl
theorem wd_874 : (Cond.instanceMethod yX6_heaps) ∈ lw_g := tm_3 (List.mem_of_getElem? (i := 237) rfl) rfl
theorem wd_875 : (Cond.selects RX6 yX6_heaps yX6_heaps) ∈ lw_g := tm_3 (List.mem_of_getElem? (i := 238) rfl) rfl
theorem wd_876 : (Cond.code yX6_heaps cX6_heaps 3 (some .int)) ∈ lw_g := tm_3 (List.mem_of_getElem? (i := 239) rfl) rfl
theorem wd_877 : (Cond.methodLink RX10 177 yX6_parts) ∈ lw_g := tm_4 (List.mem_of_getElem? (i := 0) rfl) rfl
theorem wd_878 : (Cond.instanceMethod yX6_parts) ∈ lw_g := tm_4 (List.mem_of_getElem? (i := 1) rfl) rfl
theorem wd_879 : (Cond.selects RX6 yX6_parts yX6_parts) ∈ lw_g := tm_4 (List.mem_of_getElem? (i := 2) rfl) rfl
theorem wd_880 : (Cond.code yX6_parts cX6_parts 3 (some .int)) ∈ lw_g := tm_4 (List.mem_of_getElem? (i := 3) rfl) rfl
theorem wd_881 : (Cond.methodLink RX6 30 yX2_parts) ∈ lw_g := tm_4 (List.mem_of_getElem? (i := 4) rfl) rfl
theorem wd_882 : (Cond.instanceMethod yX2_parts) ∈ lw_g := tm_4 (List.mem_of_getElem? (i := 5) rfl) rfl
theorem wd_883 : (Cond.selects RX2 yX2_parts yX2_parts) ∈ lw_g := tm_4 (List.mem_of_getElem? (i := 6) rfl) rfl
theorem wd_884 : (Cond.code yX2_parts cX2_parts 1 (some .int)) ∈ lw_g := tm_4 (List.mem_of_getElem? (i := 7) rfl) rfl
theorem wd_885 : (Cond.methodLink RX10 180 yX6_bytes) ∈ lw_g := tm_4 (List.mem_of_getElem? (i := 8) rfl) rfl
theorem wd_886 : (Cond.instanceMethod yX6_bytes) ∈ lw_g := tm_4 (List.mem_of_getElem? (i := 9) rfl) rfl
theorem wd_887 : (Cond.selects RX6 yX6_bytes yX6_bytes) ∈ lw_g := tm_4 (List.mem_of_getElem? (i := 10) rfl) rfl
theorem wd_888 : (Cond.code yX6_bytes cX6_bytes 3 (some .int)) ∈ lw_g := tm_4 (List.mem_of_getElem? (i := 11) rfl) rfl
theorem wd_889 : (Cond.methodLink RX6 34 yX2_bytes) ∈ lw_g := tm_4 (List.mem_of_getElem? (i := 12) rfl) rfl
theorem wd_890 : (Cond.instanceMethod yX2_bytes) ∈ lw_g := tm_4 (List.mem_of_getElem? (i := 13) rfl) rfl
theorem wd_891 : (Cond.selects RX2 yX2_bytes yX2_bytes) ∈ lw_g := tm_4 (List.mem_of_getElem? (i := 14) rfl) rfl
theorem wd_892 : (Cond.code yX2_bytes cX2_bytes 1 (some .int)) ∈ lw_g := tm_4 (List.mem_of_getElem? (i := 15) rfl) rfl
theorem wd_893 : (Cond.methodLink RL 93 yX11_count) ∈ lw_g := tm_5 (List.mem_of_getElem? (i := 136) rfl) rfl
theorem wd_894 : (Cond.instanceMethod yX11_count) ∈ lw_g := tm_5 (List.mem_of_getElem? (i := 137) rfl) rfl
theorem wd_895 : (Cond.selects RX11 yX11_count yX11_count) ∈ lw_g := tm_5 (List.mem_of_getElem? (i := 138) rfl) rfl
theorem wd_896 : (Cond.code yX11_count cX11_count 5 (some .int)) ∈ lw_g := tm_5 (List.mem_of_getElem? (i := 139) rfl) rfl
theorem inX0k : ∀ k, k < 3 → u_lay RX0 TX0 k ∈ lw_g := fun k hk => match k, hk with
  | 0, _ => tm_1 (List.mem_of_getElem? (i := 133) rfl) rfl
  | 1, _ => tm_1 (List.mem_of_getElem? (i := 135) rfl) rfl
  | 2, _ => tm_1 (List.mem_of_getElem? (i := 137) rfl) rfl
  | k + 3, h => absurd h (by omega)
theorem inX0 : ∀ w ∈ wsX00, w ∈ lw_g := by
  intro w hw
  obtain ⟨k, hk, rfl⟩ := List.mem_map.mp hw
  exact inX0k k (List.mem_range.mp hk)
theorem inX1k : ∀ k, k < 2 → u_lay RX1 TX1 k ∈ lw_g := fun k hk => match k, hk with
  | 0, _ => tm_1 (List.mem_of_getElem? (i := 117) rfl) rfl
  | 1, _ => tm_1 (List.mem_of_getElem? (i := 119) rfl) rfl
  | k + 2, h => absurd h (by omega)
theorem inX1 : ∀ w ∈ wsX10, w ∈ lw_g := by
  intro w hw
  obtain ⟨k, hk, rfl⟩ := List.mem_map.mp hw
  exact inX1k k (List.mem_range.mp hk)
theorem inX2k : ∀ k, k < 8 → u_lay RX2 TX2 k ∈ lw_g := fun k hk => match k, hk with
  | 0, _ => tm_1 (List.mem_of_getElem? (i := 163) rfl) rfl
  | 1, _ => tm_1 (List.mem_of_getElem? (i := 165) rfl) rfl
  | 2, _ => tm_1 (List.mem_of_getElem? (i := 167) rfl) rfl
  | 3, _ => tm_1 (List.mem_of_getElem? (i := 169) rfl) rfl
  | 4, _ => tm_1 (List.mem_of_getElem? (i := 171) rfl) rfl
  | 5, _ => tm_1 (List.mem_of_getElem? (i := 173) rfl) rfl
  | 6, _ => tm_1 (List.mem_of_getElem? (i := 175) rfl) rfl
  | 7, _ => tm_1 (List.mem_of_getElem? (i := 177) rfl) rfl
  | k + 8, h => absurd h (by omega)
theorem inX2 : ∀ w ∈ wsX20, w ∈ lw_g := by
  intro w hw
  obtain ⟨k, hk, rfl⟩ := List.mem_map.mp hw
  exact inX2k k (List.mem_range.mp hk)
theorem inX3k : ∀ k, k < 4 → u_lay RX3 TX3 k ∈ lw_g := fun k hk => match k, hk with
  | 0, _ => tm_1 (List.mem_of_getElem? (i := 32) rfl) rfl
  | 1, _ => tm_1 (List.mem_of_getElem? (i := 34) rfl) rfl
  | 2, _ => tm_1 (List.mem_of_getElem? (i := 36) rfl) rfl
  | 3, _ => tm_1 (List.mem_of_getElem? (i := 38) rfl) rfl
  | k + 4, h => absurd h (by omega)
theorem inX3 : ∀ w ∈ wsX30, w ∈ lw_g := by
  intro w hw
  obtain ⟨k, hk, rfl⟩ := List.mem_map.mp hw
  exact inX3k k (List.mem_range.mp hk)
theorem inX6k : ∀ k, k < 7 → u_lay RX6 TX6 k ∈ lw_g := fun k hk => match k, hk with
  | 0, _ => tm_1 (List.mem_of_getElem? (i := 192) rfl) rfl
  | 1, _ => tm_1 (List.mem_of_getElem? (i := 194) rfl) rfl
  | 2, _ => tm_1 (List.mem_of_getElem? (i := 196) rfl) rfl
  | 3, _ => tm_1 (List.mem_of_getElem? (i := 198) rfl) rfl
  | 4, _ => tm_1 (List.mem_of_getElem? (i := 200) rfl) rfl
  | 5, _ => tm_1 (List.mem_of_getElem? (i := 202) rfl) rfl
  | 6, _ => tm_1 (List.mem_of_getElem? (i := 204) rfl) rfl
  | k + 7, h => absurd h (by omega)
theorem inX6 : ∀ w ∈ wsX60, w ∈ lw_g := by
  intro w hw
  obtain ⟨k, hk, rfl⟩ := List.mem_map.mp hw
  exact inX6k k (List.mem_range.mp hk)
theorem inX7k : ∀ k, k < 2 → u_lay RX7 TX7 k ∈ lw_g := fun k hk => match k, hk with
  | 0, _ => tm_1 (List.mem_of_getElem? (i := 67) rfl) rfl
  | 1, _ => tm_1 (List.mem_of_getElem? (i := 69) rfl) rfl
  | k + 2, h => absurd h (by omega)
theorem inX7 : ∀ w ∈ wsX70, w ∈ lw_g := by
  intro w hw
  obtain ⟨k, hk, rfl⟩ := List.mem_map.mp hw
  exact inX7k k (List.mem_range.mp hk)
theorem inX8k : ∀ k, k < 1 → u_lay RX8 TX8 k ∈ lw_g := fun k hk => match k, hk with
  | 0, _ => tm_1 (List.mem_of_getElem? (i := 50) rfl) rfl
  | k + 1, h => absurd h (by omega)
theorem inX8 : ∀ w ∈ wsX80, w ∈ lw_g := by
  intro w hw
  obtain ⟨k, hk, rfl⟩ := List.mem_map.mp hw
  exact inX8k k (List.mem_range.mp hk)
theorem inX9k : ∀ k, k < 10 → u_lay RX9 TX9 k ∈ lw_g := fun k hk => match k, hk with
  | 0, _ => tm_1 (List.mem_of_getElem? (i := 83) rfl) rfl
  | 1, _ => tm_1 (List.mem_of_getElem? (i := 85) rfl) rfl
  | 2, _ => tm_1 (List.mem_of_getElem? (i := 87) rfl) rfl
  | 3, _ => tm_1 (List.mem_of_getElem? (i := 89) rfl) rfl
  | 4, _ => tm_1 (List.mem_of_getElem? (i := 91) rfl) rfl
  | 5, _ => tm_1 (List.mem_of_getElem? (i := 93) rfl) rfl
  | 6, _ => tm_1 (List.mem_of_getElem? (i := 95) rfl) rfl
  | 7, _ => tm_1 (List.mem_of_getElem? (i := 97) rfl) rfl
  | 8, _ => tm_1 (List.mem_of_getElem? (i := 99) rfl) rfl
  | 9, _ => tm_1 (List.mem_of_getElem? (i := 101) rfl) rfl
  | k + 10, h => absurd h (by omega)
theorem inX9 : ∀ w ∈ wsX90, w ∈ lw_g := by
  intro w hw
  obtain ⟨k, hk, rfl⟩ := List.mem_map.mp hw
  exact inX9k k (List.mem_range.mp hk)
theorem inX10k : ∀ k, k < 9 → u_lay RX10 TX10 k ∈ lw_g := fun k hk => match k, hk with
  | 0, _ => tm_1 (List.mem_of_getElem? (i := 216) rfl) rfl
  | 1, _ => tm_1 (List.mem_of_getElem? (i := 218) rfl) rfl
  | 2, _ => tm_1 (List.mem_of_getElem? (i := 220) rfl) rfl
  | 3, _ => tm_1 (List.mem_of_getElem? (i := 222) rfl) rfl
  | 4, _ => tm_1 (List.mem_of_getElem? (i := 224) rfl) rfl
  | 5, _ => tm_1 (List.mem_of_getElem? (i := 226) rfl) rfl
  | 6, _ => tm_1 (List.mem_of_getElem? (i := 228) rfl) rfl
  | 7, _ => tm_1 (List.mem_of_getElem? (i := 230) rfl) rfl
  | 8, _ => tm_1 (List.mem_of_getElem? (i := 232) rfl) rfl
  | k + 9, h => absurd h (by omega)
theorem inX10 : ∀ w ∈ wsX100, w ∈ lw_g := by
  intro w hw
  obtain ⟨k, hk, rfl⟩ := List.mem_map.mp hw
  exact inX10k k (List.mem_range.mp hk)
theorem inX11k : ∀ k, k < 46 → u_lay RX11 TX11 k ∈ lw_g := fun k hk => match k, hk with
  | 0, _ => tm_4 (List.mem_of_getElem? (i := 76) rfl) rfl
  | 1, _ => tm_4 (List.mem_of_getElem? (i := 78) rfl) rfl
  | 2, _ => tm_4 (List.mem_of_getElem? (i := 80) rfl) rfl
  | 3, _ => tm_4 (List.mem_of_getElem? (i := 82) rfl) rfl
  | 4, _ => tm_4 (List.mem_of_getElem? (i := 84) rfl) rfl
  | 5, _ => tm_4 (List.mem_of_getElem? (i := 86) rfl) rfl
  | 6, _ => tm_4 (List.mem_of_getElem? (i := 88) rfl) rfl
  | 7, _ => tm_4 (List.mem_of_getElem? (i := 90) rfl) rfl
  | 8, _ => tm_4 (List.mem_of_getElem? (i := 92) rfl) rfl
  | 9, _ => tm_4 (List.mem_of_getElem? (i := 94) rfl) rfl
  | 10, _ => tm_4 (List.mem_of_getElem? (i := 96) rfl) rfl
  | 11, _ => tm_4 (List.mem_of_getElem? (i := 98) rfl) rfl
  | 12, _ => tm_4 (List.mem_of_getElem? (i := 100) rfl) rfl
  | 13, _ => tm_4 (List.mem_of_getElem? (i := 102) rfl) rfl
  | 14, _ => tm_4 (List.mem_of_getElem? (i := 104) rfl) rfl
  | 15, _ => tm_4 (List.mem_of_getElem? (i := 106) rfl) rfl
  | 16, _ => tm_4 (List.mem_of_getElem? (i := 108) rfl) rfl
  | 17, _ => tm_4 (List.mem_of_getElem? (i := 110) rfl) rfl
  | 18, _ => tm_4 (List.mem_of_getElem? (i := 112) rfl) rfl
  | 19, _ => tm_4 (List.mem_of_getElem? (i := 114) rfl) rfl
  | 20, _ => tm_4 (List.mem_of_getElem? (i := 116) rfl) rfl
  | 21, _ => tm_4 (List.mem_of_getElem? (i := 118) rfl) rfl
  | 22, _ => tm_4 (List.mem_of_getElem? (i := 120) rfl) rfl
  | 23, _ => tm_4 (List.mem_of_getElem? (i := 122) rfl) rfl
  | 24, _ => tm_4 (List.mem_of_getElem? (i := 124) rfl) rfl
  | 25, _ => tm_4 (List.mem_of_getElem? (i := 126) rfl) rfl
  | 26, _ => tm_4 (List.mem_of_getElem? (i := 128) rfl) rfl
  | 27, _ => tm_4 (List.mem_of_getElem? (i := 130) rfl) rfl
  | 28, _ => tm_4 (List.mem_of_getElem? (i := 132) rfl) rfl
  | 29, _ => tm_4 (List.mem_of_getElem? (i := 134) rfl) rfl
  | 30, _ => tm_4 (List.mem_of_getElem? (i := 136) rfl) rfl
  | 31, _ => tm_4 (List.mem_of_getElem? (i := 138) rfl) rfl
  | 32, _ => tm_4 (List.mem_of_getElem? (i := 140) rfl) rfl
  | 33, _ => tm_4 (List.mem_of_getElem? (i := 142) rfl) rfl
  | 34, _ => tm_4 (List.mem_of_getElem? (i := 144) rfl) rfl
  | 35, _ => tm_4 (List.mem_of_getElem? (i := 146) rfl) rfl
  | 36, _ => tm_4 (List.mem_of_getElem? (i := 148) rfl) rfl
  | 37, _ => tm_4 (List.mem_of_getElem? (i := 150) rfl) rfl
  | 38, _ => tm_4 (List.mem_of_getElem? (i := 152) rfl) rfl
  | 39, _ => tm_4 (List.mem_of_getElem? (i := 154) rfl) rfl
  | 40, _ => tm_4 (List.mem_of_getElem? (i := 156) rfl) rfl
  | 41, _ => tm_4 (List.mem_of_getElem? (i := 158) rfl) rfl
  | 42, _ => tm_4 (List.mem_of_getElem? (i := 160) rfl) rfl
  | 43, _ => tm_4 (List.mem_of_getElem? (i := 162) rfl) rfl
  | 44, _ => tm_4 (List.mem_of_getElem? (i := 164) rfl) rfl
  | 45, _ => tm_4 (List.mem_of_getElem? (i := 166) rfl) rfl
  | k + 46, h => absurd h (by omega)
theorem inX11 : ∀ w ∈ wsX110, w ∈ lw_g := by
  intro w hw
  obtain ⟨k, hk, rfl⟩ := List.mem_map.mp hw
  exact inX11k k (List.mem_range.mp hk)
theorem wd_good : ∀ w ∈ lw_g, goodWord w = true := fun w hw => (List.mem_filter.mp hw).2
end
section
theorem dX0_init_0 : decode cX0_init 0 = .ok (.aload_n 0, 1) := by decide +kernel
theorem dX0_init_1 : decode cX0_init 1 = .ok (.invokespecial 3, 3) := by decide +kernel
theorem dX0_init_4 : decode cX0_init 4 = .ok (.aload_n 0, 1) := by decide +kernel
theorem dX0_init_5 : decode cX0_init 5 = .ok (.new 9, 3) := by decide +kernel
theorem dX0_init_8 : decode cX0_init 8 = .ok (.dup, 1) := by decide +kernel
theorem dX0_init_9 : decode cX0_init 9 = .ok (.sipush 640, 3) := by decide +kernel
theorem dX0_init_12 : decode cX0_init 12 = .ok (.invokespecial 11, 3) := by decide +kernel
theorem dX0_init_15 : decode cX0_init 15 = .ok (.putfield 14, 3) := by decide +kernel
theorem dX0_init_18 : decode cX0_init 18 = .ok (.aload_n 0, 1) := by decide +kernel
theorem dX0_init_19 : decode cX0_init 19 = .ok (.new 9, 3) := by decide +kernel
theorem dX0_init_22 : decode cX0_init 22 = .ok (.dup, 1) := by decide +kernel
theorem dX0_init_23 : decode cX0_init 23 = .ok (.bipush 120, 2) := by decide +kernel
theorem dX0_init_25 : decode cX0_init 25 = .ok (.invokespecial 11, 3) := by decide +kernel
theorem dX0_init_28 : decode cX0_init 28 = .ok (.putfield 20, 3) := by decide +kernel
theorem dX0_init_31 : decode cX0_init 31 = .ok (.aload_n 0, 1) := by decide +kernel
theorem dX0_init_32 : decode cX0_init 32 = .ok (.aload_n 1, 1) := by decide +kernel
theorem dX0_init_33 : decode cX0_init 33 = .ok (.putfield 23, 3) := by decide +kernel
theorem dX0_init_36 : decode cX0_init 36 = .ok (.return_, 1) := by decide +kernel
theorem dX0_divide_0 : decode cX0_divide 0 = .ok (.aload_n 0, 1) := by decide +kernel
theorem dX0_divide_1 : decode cX0_divide 1 = .ok (.getfield 23, 3) := by decide +kernel
theorem dX0_divide_4 : decode cX0_divide 4 = .ok (.aload_n 1, 1) := by decide +kernel
theorem dX0_divide_5 : decode cX0_divide 5 = .ok (.aload_n 0, 1) := by decide +kernel
theorem dX0_divide_6 : decode cX0_divide 6 = .ok (.getfield 14, 3) := by decide +kernel
theorem dX0_divide_9 : decode cX0_divide 9 = .ok (.invokevirtual 27, 3) := by decide +kernel
theorem dX0_divide_12 : decode cX0_divide 12 = .ok (.istore 5, 2) := by decide +kernel
theorem dX0_divide_14 : decode cX0_divide 14 = .ok (.aload_n 0, 1) := by decide +kernel
theorem dX0_divide_15 : decode cX0_divide 15 = .ok (.getfield 14, 3) := by decide +kernel
theorem dX0_divide_18 : decode cX0_divide 18 = .ok (.invokevirtual 33, 3) := by decide +kernel
theorem dX0_divide_21 : decode cX0_divide 21 = .ok (.iload_n 2, 1) := by decide +kernel
theorem dX0_divide_22 : decode cX0_divide 22 = .ok (.if_icmp .gt 25, 3) := by decide +kernel
theorem dX0_divide_25 : decode cX0_divide 25 = .ok (.aload 4, 2) := by decide +kernel
theorem dX0_divide_27 : decode cX0_divide 27 = .ok (.invokevirtual 37, 3) := by decide +kernel
theorem dX0_divide_30 : decode cX0_divide 30 = .ok (.aload 4, 2) := by decide +kernel
theorem dX0_divide_32 : decode cX0_divide 32 = .ok (.iconst 0, 1) := by decide +kernel
theorem dX0_divide_33 : decode cX0_divide 33 = .ok (.aload_n 0, 1) := by decide +kernel
theorem dX0_divide_34 : decode cX0_divide 34 = .ok (.getfield 14, 3) := by decide +kernel
theorem dX0_divide_37 : decode cX0_divide 37 = .ok (.invokevirtual 42, 3) := by decide +kernel
theorem dX0_divide_40 : decode cX0_divide 40 = .ok (.pop, 1) := by decide +kernel
theorem dX0_divide_41 : decode cX0_divide 41 = .ok (.aload 4, 2) := by decide +kernel
theorem dX0_divide_43 : decode cX0_divide 43 = .ok (.invokevirtual 46, 3) := by decide +kernel
theorem dX0_divide_46 : decode cX0_divide 46 = .ok (.ireturn, 1) := by decide +kernel
theorem dX0_divide_47 : decode cX0_divide 47 = .ok (.iload_n 2, 1) := by decide +kernel
theorem dX0_divide_48 : decode cX0_divide 48 = .ok (.iconst 4, 1) := by decide +kernel
theorem dX0_divide_49 : decode cX0_divide 49 = .ok (.isub, 1) := by decide +kernel
theorem dX0_divide_50 : decode cX0_divide 50 = .ok (.iload 5, 2) := by decide +kernel
theorem dX0_divide_52 : decode cX0_divide 52 = .ok (.isub, 1) := by decide +kernel
theorem dX0_divide_53 : decode cX0_divide 53 = .ok (.istore 6, 2) := by decide +kernel
theorem dX0_divide_55 : decode cX0_divide 55 = .ok (.iload 6, 2) := by decide +kernel
theorem dX0_divide_57 : decode cX0_divide 57 = .ok (.ifCond .ge 6, 3) := by decide +kernel
theorem dX0_divide_60 : decode cX0_divide 60 = .ok (.bipush (-3), 2) := by decide +kernel
theorem dX0_divide_62 : decode cX0_divide 62 = .ok (.ireturn, 1) := by decide +kernel
theorem dX0_divide_63 : decode cX0_divide 63 = .ok (.iload 6, 2) := by decide +kernel
theorem dX0_divide_65 : decode cX0_divide 65 = .ok (.bipush 8, 2) := by decide +kernel
theorem dX0_divide_67 : decode cX0_divide 67 = .ok (.idiv, 1) := by decide +kernel
theorem dX0_divide_68 : decode cX0_divide 68 = .ok (.bipush 8, 2) := by decide +kernel
theorem dX0_divide_70 : decode cX0_divide 70 = .ok (.imul, 1) := by decide +kernel
theorem dX0_divide_71 : decode cX0_divide 71 = .ok (.istore 7, 2) := by decide +kernel
theorem dX0_divide_73 : decode cX0_divide 73 = .ok (.aload_n 0, 1) := by decide +kernel
theorem dX0_divide_74 : decode cX0_divide 74 = .ok (.sipush 192, 3) := by decide +kernel
theorem dX0_divide_77 : decode cX0_divide 77 = .ok (.aload_n 1, 1) := by decide +kernel
theorem dX0_divide_78 : decode cX0_divide 78 = .ok (.invokevirtual 33, 3) := by decide +kernel
theorem dX0_divide_81 : decode cX0_divide 81 = .ok (.iload_n 3, 1) := by decide +kernel
theorem dX0_divide_82 : decode cX0_divide 82 = .ok (.invokevirtual 49, 3) := by decide +kernel
theorem dX0_divide_85 : decode cX0_divide 85 = .ok (.aload_n 0, 1) := by decide +kernel
theorem dX0_divide_86 : decode cX0_divide 86 = .ok (.getfield 20, 3) := by decide +kernel
theorem dX0_divide_89 : decode cX0_divide 89 = .ok (.aload_n 0, 1) := by decide +kernel
theorem dX0_divide_90 : decode cX0_divide 90 = .ok (.getfield 14, 3) := by decide +kernel
theorem dX0_divide_93 : decode cX0_divide 93 = .ok (.iconst 0, 1) := by decide +kernel
theorem dX0_divide_94 : decode cX0_divide 94 = .ok (.iload 5, 2) := by decide +kernel
theorem dX0_divide_96 : decode cX0_divide 96 = .ok (.iload 7, 2) := by decide +kernel
theorem dX0_divide_98 : decode cX0_divide 98 = .ok (.iadd, 1) := by decide +kernel
theorem dX0_divide_99 : decode cX0_divide 99 = .ok (.invokevirtual 53, 3) := by decide +kernel
theorem dX0_divide_102 : decode cX0_divide 102 = .ok (.aload 4, 2) := by decide +kernel
theorem dX0_divide_104 : decode cX0_divide 104 = .ok (.invokevirtual 37, 3) := by decide +kernel
theorem dX0_divide_107 : decode cX0_divide 107 = .ok (.aload 4, 2) := by decide +kernel
theorem dX0_divide_109 : decode cX0_divide 109 = .ok (.iconst 0, 1) := by decide +kernel
theorem dX0_divide_110 : decode cX0_divide 110 = .ok (.aload_n 0, 1) := by decide +kernel
theorem dX0_divide_111 : decode cX0_divide 111 = .ok (.getfield 20, 3) := by decide +kernel
theorem dX0_divide_114 : decode cX0_divide 114 = .ok (.invokevirtual 42, 3) := by decide +kernel
theorem dX0_divide_117 : decode cX0_divide 117 = .ok (.pop, 1) := by decide +kernel
theorem dX0_divide_118 : decode cX0_divide 118 = .ok (.aload_n 0, 1) := by decide +kernel
theorem dX0_divide_119 : decode cX0_divide 119 = .ok (.aload_n 1, 1) := by decide +kernel
theorem dX0_divide_120 : decode cX0_divide 120 = .ok (.aload_n 1, 1) := by decide +kernel
theorem dX0_divide_121 : decode cX0_divide 121 = .ok (.invokestatic 57, 3) := by decide +kernel
theorem dX0_divide_124 : decode cX0_divide 124 = .ok (.iload 7, 2) := by decide +kernel
theorem dX0_divide_126 : decode cX0_divide 126 = .ok (.iadd, 1) := by decide +kernel
theorem dX0_divide_127 : decode cX0_divide 127 = .ok (.iload_n 2, 1) := by decide +kernel
theorem dX0_divide_128 : decode cX0_divide 128 = .ok (.iload_n 3, 1) := by decide +kernel
theorem dX0_divide_129 : decode cX0_divide 129 = .ok (.aload 4, 2) := by decide +kernel
theorem dX0_divide_131 : decode cX0_divide 131 = .ok (.invokevirtual 63, 3) := by decide +kernel
theorem dX0_divide_134 : decode cX0_divide 134 = .ok (.ireturn, 1) := by decide +kernel
theorem dX0_divideRest_0 : decode cX0_divideRest 0 = .ok (.aload_n 1, 1) := by decide +kernel
theorem dX0_divideRest_1 : decode cX0_divideRest 1 = .ok (.invokevirtual 33, 3) := by decide +kernel
theorem dX0_divideRest_4 : decode cX0_divideRest 4 = .ok (.istore 6, 2) := by decide +kernel
theorem dX0_divideRest_6 : decode cX0_divideRest 6 = .ok (.iload_n 3, 1) := by decide +kernel
theorem dX0_divideRest_7 : decode cX0_divideRest 7 = .ok (.iconst 5, 1) := by decide +kernel
theorem dX0_divideRest_8 : decode cX0_divideRest 8 = .ok (.isub, 1) := by decide +kernel
theorem dX0_divideRest_9 : decode cX0_divideRest 9 = .ok (.istore 7, 2) := by decide +kernel
theorem dX0_divideRest_11 : decode cX0_divideRest 11 = .ok (.iload_n 2, 1) := by decide +kernel
theorem dX0_divideRest_12 : decode cX0_divideRest 12 = .ok (.istore 8, 2) := by decide +kernel
theorem dX0_divideRest_14 : decode cX0_divideRest 14 = .ok (.iconst 1, 1) := by decide +kernel
theorem dX0_divideRest_15 : decode cX0_divideRest 15 = .ok (.istore 9, 2) := by decide +kernel
theorem dX0_divideRest_17 : decode cX0_divideRest 17 = .ok (.iload 9, 2) := by decide +kernel
theorem dX0_divideRest_19 : decode cX0_divideRest 19 = .ok (.bipush 40, 2) := by decide +kernel
theorem dX0_divideRest_21 : decode cX0_divideRest 21 = .ok (.if_icmp .ge 95, 3) := by decide +kernel
theorem dX0_divideRest_24 : decode cX0_divideRest 24 = .ok (.iload 8, 2) := by decide +kernel
theorem dX0_divideRest_26 : decode cX0_divideRest 26 = .ok (.iload 6, 2) := by decide +kernel
theorem dX0_divideRest_28 : decode cX0_divideRest 28 = .ok (.if_icmp .ge 88, 3) := by decide +kernel
theorem dX0_divideRest_31 : decode cX0_divideRest 31 = .ok (.iload 6, 2) := by decide +kernel
theorem dX0_divideRest_33 : decode cX0_divideRest 33 = .ok (.iload 8, 2) := by decide +kernel
theorem dX0_divideRest_35 : decode cX0_divideRest 35 = .ok (.isub, 1) := by decide +kernel
theorem dX0_divideRest_36 : decode cX0_divideRest 36 = .ok (.iload 7, 2) := by decide +kernel
theorem dX0_divideRest_38 : decode cX0_divideRest 38 = .ok (.if_icmp .gt 8, 3) := by decide +kernel
theorem dX0_divideRest_41 : decode cX0_divideRest 41 = .ok (.iload 6, 2) := by decide +kernel
theorem dX0_divideRest_43 : decode cX0_divideRest 43 = .ok (.goto 14, 3) := by decide +kernel
theorem dX0_divideRest_46 : decode cX0_divideRest 46 = .ok (.iload 8, 2) := by decide +kernel
theorem dX0_divideRest_48 : decode cX0_divideRest 48 = .ok (.iload 7, 2) := by decide +kernel
theorem dX0_divideRest_50 : decode cX0_divideRest 50 = .ok (.bipush 8, 2) := by decide +kernel
theorem dX0_divideRest_52 : decode cX0_divideRest 52 = .ok (.idiv, 1) := by decide +kernel
theorem dX0_divideRest_53 : decode cX0_divideRest 53 = .ok (.bipush 8, 2) := by decide +kernel
theorem dX0_divideRest_55 : decode cX0_divideRest 55 = .ok (.imul, 1) := by decide +kernel
theorem dX0_divideRest_56 : decode cX0_divideRest 56 = .ok (.iadd, 1) := by decide +kernel
theorem dX0_divideRest_57 : decode cX0_divideRest 57 = .ok (.istore 10, 2) := by decide +kernel
theorem dX0_divideRest_59 : decode cX0_divideRest 59 = .ok (.aload_n 0, 1) := by decide +kernel
theorem dX0_divideRest_60 : decode cX0_divideRest 60 = .ok (.sipush 224, 3) := by decide +kernel
theorem dX0_divideRest_63 : decode cX0_divideRest 63 = .ok (.iload 6, 2) := by decide +kernel
theorem dX0_divideRest_65 : decode cX0_divideRest 65 = .ok (.iload 4, 2) := by decide +kernel
theorem dX0_divideRest_67 : decode cX0_divideRest 67 = .ok (.invokevirtual 49, 3) := by decide +kernel
theorem dX0_divideRest_70 : decode cX0_divideRest 70 = .ok (.aload_n 0, 1) := by decide +kernel
theorem dX0_divideRest_71 : decode cX0_divideRest 71 = .ok (.getfield 20, 3) := by decide +kernel
theorem dX0_divideRest_74 : decode cX0_divideRest 74 = .ok (.iload 8, 2) := by decide +kernel
theorem dX0_divideRest_76 : decode cX0_divideRest 76 = .ok (.bipush 8, 2) := by decide +kernel
theorem dX0_divideRest_78 : decode cX0_divideRest 78 = .ok (.idiv, 1) := by decide +kernel
theorem dX0_divideRest_79 : decode cX0_divideRest 79 = .ok (.invokevirtual 67, 3) := by decide +kernel
theorem dX0_divideRest_82 : decode cX0_divideRest 82 = .ok (.aload_n 0, 1) := by decide +kernel
theorem dX0_divideRest_83 : decode cX0_divideRest 83 = .ok (.getfield 20, 3) := by decide +kernel
theorem dX0_divideRest_86 : decode cX0_divideRest 86 = .ok (.aload_n 1, 1) := by decide +kernel
theorem dX0_divideRest_87 : decode cX0_divideRest 87 = .ok (.iload 8, 2) := by decide +kernel
theorem dX0_divideRest_89 : decode cX0_divideRest 89 = .ok (.iload 10, 2) := by decide +kernel
theorem dX0_divideRest_91 : decode cX0_divideRest 91 = .ok (.invokevirtual 53, 3) := by decide +kernel
theorem dX0_divideRest_94 : decode cX0_divideRest 94 = .ok (.aload 5, 2) := by decide +kernel
theorem dX0_divideRest_96 : decode cX0_divideRest 96 = .ok (.iload 9, 2) := by decide +kernel
theorem dX0_divideRest_98 : decode cX0_divideRest 98 = .ok (.aload_n 0, 1) := by decide +kernel
theorem dX0_divideRest_99 : decode cX0_divideRest 99 = .ok (.getfield 20, 3) := by decide +kernel
theorem dX0_divideRest_102 : decode cX0_divideRest 102 = .ok (.invokevirtual 42, 3) := by decide +kernel
theorem dX0_divideRest_105 : decode cX0_divideRest 105 = .ok (.pop, 1) := by decide +kernel
theorem dX0_divideRest_106 : decode cX0_divideRest 106 = .ok (.iload 10, 2) := by decide +kernel
theorem dX0_divideRest_108 : decode cX0_divideRest 108 = .ok (.istore 8, 2) := by decide +kernel
theorem dX0_divideRest_110 : decode cX0_divideRest 110 = .ok (.iinc 9 1, 3) := by decide +kernel
theorem dX0_divideRest_113 : decode cX0_divideRest 113 = .ok (.goto (-96), 3) := by decide +kernel
theorem dX0_divideRest_116 : decode cX0_divideRest 116 = .ok (.iload 8, 2) := by decide +kernel
theorem dX0_divideRest_118 : decode cX0_divideRest 118 = .ok (.iload 6, 2) := by decide +kernel
theorem dX0_divideRest_120 : decode cX0_divideRest 120 = .ok (.if_icmp .ge 11, 3) := by decide +kernel
theorem dX0_divideRest_123 : decode cX0_divideRest 123 = .ok (.aload 5, 2) := by decide +kernel
theorem dX0_divideRest_125 : decode cX0_divideRest 125 = .ok (.invokevirtual 37, 3) := by decide +kernel
theorem dX0_divideRest_128 : decode cX0_divideRest 128 = .ok (.bipush (-3), 2) := by decide +kernel
theorem dX0_divideRest_130 : decode cX0_divideRest 130 = .ok (.ireturn, 1) := by decide +kernel
theorem dX0_divideRest_131 : decode cX0_divideRest 131 = .ok (.aload 5, 2) := by decide +kernel
theorem dX0_divideRest_133 : decode cX0_divideRest 133 = .ok (.invokevirtual 46, 3) := by decide +kernel
theorem dX0_divideRest_136 : decode cX0_divideRest 136 = .ok (.ireturn, 1) := by decide +kernel
theorem dX0_begin_0 : decode cX0_begin 0 = .ok (.aload_n 0, 1) := by decide +kernel
theorem dX0_begin_1 : decode cX0_begin 1 = .ok (.getfield 20, 3) := by decide +kernel
theorem dX0_begin_4 : decode cX0_begin 4 = .ok (.iconst 0, 1) := by decide +kernel
theorem dX0_begin_5 : decode cX0_begin 5 = .ok (.invokevirtual 70, 3) := by decide +kernel
theorem dX0_begin_8 : decode cX0_begin 8 = .ok (.aload_n 0, 1) := by decide +kernel
theorem dX0_begin_9 : decode cX0_begin 9 = .ok (.getfield 20, 3) := by decide +kernel
theorem dX0_begin_12 : decode cX0_begin 12 = .ok (.iload_n 1, 1) := by decide +kernel
theorem dX0_begin_13 : decode cX0_begin 13 = .ok (.i2l, 1) := by decide +kernel
theorem dX0_begin_14 : decode cX0_begin 14 = .ok (.bipush 8, 2) := by decide +kernel
theorem dX0_begin_16 : decode cX0_begin 16 = .ok (.lshl, 1) := by decide +kernel
theorem dX0_begin_17 : decode cX0_begin 17 = .ok (.iload_n 2, 1) := by decide +kernel
theorem dX0_begin_18 : decode cX0_begin 18 = .ok (.i2l, 1) := by decide +kernel
theorem dX0_begin_19 : decode cX0_begin 19 = .ok (.lor, 1) := by decide +kernel
theorem dX0_begin_20 : decode cX0_begin 20 = .ok (.iconst 2, 1) := by decide +kernel
theorem dX0_begin_21 : decode cX0_begin 21 = .ok (.invokevirtual 73, 3) := by decide +kernel
theorem dX0_begin_24 : decode cX0_begin 24 = .ok (.aload_n 0, 1) := by decide +kernel
theorem dX0_begin_25 : decode cX0_begin 25 = .ok (.getfield 20, 3) := by decide +kernel
theorem dX0_begin_28 : decode cX0_begin 28 = .ok (.iload_n 3, 1) := by decide +kernel
theorem dX0_begin_29 : decode cX0_begin 29 = .ok (.i2l, 1) := by decide +kernel
theorem dX0_begin_30 : decode cX0_begin 30 = .ok (.iconst 2, 1) := by decide +kernel
theorem dX0_begin_31 : decode cX0_begin 31 = .ok (.invokevirtual 73, 3) := by decide +kernel
theorem dX0_begin_34 : decode cX0_begin 34 = .ok (.return_, 1) := by decide +kernel
theorem dX1_init_0 : decode cX1_init 0 = .ok (.aload_n 0, 1) := by decide +kernel
theorem dX1_init_1 : decode cX1_init 1 = .ok (.invokespecial 3, 3) := by decide +kernel
theorem dX1_init_4 : decode cX1_init 4 = .ok (.aload_n 0, 1) := by decide +kernel
theorem dX1_init_5 : decode cX1_init 5 = .ok (.bipush 40, 2) := by decide +kernel
theorem dX1_init_7 : decode cX1_init 7 = .ok (.anewarray 9, 3) := by decide +kernel
theorem dX1_init_10 : decode cX1_init 10 = .ok (.putfield 11, 3) := by decide +kernel
theorem dX1_init_13 : decode cX1_init 13 = .ok (.iconst 0, 1) := by decide +kernel
theorem dX1_init_14 : decode cX1_init 14 = .ok (.istore_n 1, 1) := by decide +kernel
theorem dX1_init_15 : decode cX1_init 15 = .ok (.iload_n 1, 1) := by decide +kernel
theorem dX1_init_16 : decode cX1_init 16 = .ok (.bipush 40, 2) := by decide +kernel
theorem dX1_init_18 : decode cX1_init 18 = .ok (.if_icmp .ge 24, 3) := by decide +kernel
theorem dX1_init_21 : decode cX1_init 21 = .ok (.aload_n 0, 1) := by decide +kernel
theorem dX1_init_22 : decode cX1_init 22 = .ok (.getfield 11, 3) := by decide +kernel
theorem dX1_init_25 : decode cX1_init 25 = .ok (.iload_n 1, 1) := by decide +kernel
theorem dX1_init_26 : decode cX1_init 26 = .ok (.new 9, 3) := by decide +kernel
theorem dX1_init_29 : decode cX1_init 29 = .ok (.dup, 1) := by decide +kernel
theorem dX1_init_30 : decode cX1_init 30 = .ok (.bipush 120, 2) := by decide +kernel
theorem dX1_init_32 : decode cX1_init 32 = .ok (.invokespecial 17, 3) := by decide +kernel
theorem dX1_init_35 : decode cX1_init 35 = .ok (.aastore, 1) := by decide +kernel
theorem dX1_init_36 : decode cX1_init 36 = .ok (.iinc 1 1, 3) := by decide +kernel
theorem dX1_init_39 : decode cX1_init 39 = .ok (.goto (-24), 3) := by decide +kernel
theorem dX1_init_42 : decode cX1_init 42 = .ok (.aload_n 0, 1) := by decide +kernel
theorem dX1_init_43 : decode cX1_init 43 = .ok (.iconst 0, 1) := by decide +kernel
theorem dX1_init_44 : decode cX1_init 44 = .ok (.putfield 20, 3) := by decide +kernel
theorem dX1_init_47 : decode cX1_init 47 = .ok (.return_, 1) := by decide +kernel
theorem dX1_size_0 : decode cX1_size 0 = .ok (.aload_n 0, 1) := by decide +kernel
theorem dX1_size_1 : decode cX1_size 1 = .ok (.getfield 20, 3) := by decide +kernel
theorem dX1_size_4 : decode cX1_size 4 = .ok (.ireturn, 1) := by decide +kernel
theorem dX1_has_0 : decode cX1_has 0 = .ok (.iload_n 1, 1) := by decide +kernel
theorem dX1_has_1 : decode cX1_has 1 = .ok (.ifCond .lt 15, 3) := by decide +kernel
theorem dX1_has_4 : decode cX1_has 4 = .ok (.iload_n 1, 1) := by decide +kernel
theorem dX1_has_5 : decode cX1_has 5 = .ok (.aload_n 0, 1) := by decide +kernel
theorem dX1_has_6 : decode cX1_has 6 = .ok (.getfield 20, 3) := by decide +kernel
theorem dX1_has_9 : decode cX1_has 9 = .ok (.if_icmp .ge 7, 3) := by decide +kernel
theorem dX1_has_12 : decode cX1_has 12 = .ok (.iconst 1, 1) := by decide +kernel
theorem dX1_has_13 : decode cX1_has 13 = .ok (.goto 4, 3) := by decide +kernel
theorem dX1_has_16 : decode cX1_has 16 = .ok (.iconst 0, 1) := by decide +kernel
theorem dX1_has_17 : decode cX1_has 17 = .ok (.ireturn, 1) := by decide +kernel
theorem dX1_at_0 : decode cX1_at 0 = .ok (.aload_n 0, 1) := by decide +kernel
theorem dX1_at_1 : decode cX1_at 1 = .ok (.getfield 11, 3) := by decide +kernel
theorem dX1_at_4 : decode cX1_at 4 = .ok (.iload_n 1, 1) := by decide +kernel
theorem dX1_at_5 : decode cX1_at 5 = .ok (.ifCond .lt 13, 3) := by decide +kernel
theorem dX1_at_8 : decode cX1_at 8 = .ok (.iload_n 1, 1) := by decide +kernel
theorem dX1_at_9 : decode cX1_at 9 = .ok (.bipush 40, 2) := by decide +kernel
theorem dX1_at_11 : decode cX1_at 11 = .ok (.if_icmp .ge 7, 3) := by decide +kernel
theorem dX1_at_14 : decode cX1_at 14 = .ok (.iload_n 1, 1) := by decide +kernel
theorem dX1_at_15 : decode cX1_at 15 = .ok (.goto 4, 3) := by decide +kernel
theorem dX1_at_18 : decode cX1_at 18 = .ok (.iconst 0, 1) := by decide +kernel
theorem dX1_at_19 : decode cX1_at 19 = .ok (.aaload, 1) := by decide +kernel
theorem dX1_at_20 : decode cX1_at 20 = .ok (.areturn, 1) := by decide +kernel
theorem dX1_clear_0 : decode cX1_clear 0 = .ok (.aload_n 0, 1) := by decide +kernel
theorem dX1_clear_1 : decode cX1_clear 1 = .ok (.iconst 0, 1) := by decide +kernel
theorem dX1_clear_2 : decode cX1_clear 2 = .ok (.putfield 20, 3) := by decide +kernel
theorem dX1_clear_5 : decode cX1_clear 5 = .ok (.return_, 1) := by decide +kernel
theorem dX1_store_0 : decode cX1_store 0 = .ok (.iload_n 1, 1) := by decide +kernel
theorem dX1_store_1 : decode cX1_store 1 = .ok (.ifCond .lt 17, 3) := by decide +kernel
theorem dX1_store_4 : decode cX1_store 4 = .ok (.iload_n 1, 1) := by decide +kernel
theorem dX1_store_5 : decode cX1_store 5 = .ok (.aload_n 0, 1) := by decide +kernel
theorem dX1_store_6 : decode cX1_store 6 = .ok (.getfield 20, 3) := by decide +kernel
theorem dX1_store_9 : decode cX1_store 9 = .ok (.if_icmp .gt 9, 3) := by decide +kernel
theorem dX1_store_12 : decode cX1_store 12 = .ok (.iload_n 1, 1) := by decide +kernel
theorem dX1_store_13 : decode cX1_store 13 = .ok (.bipush 40, 2) := by decide +kernel
theorem dX1_store_15 : decode cX1_store 15 = .ok (.if_icmp .lt 5, 3) := by decide +kernel
theorem dX1_store_18 : decode cX1_store 18 = .ok (.iconst 0, 1) := by decide +kernel
theorem dX1_store_19 : decode cX1_store 19 = .ok (.ireturn, 1) := by decide +kernel
theorem dX1_store_20 : decode cX1_store 20 = .ok (.aload_n 0, 1) := by decide +kernel
theorem dX1_store_21 : decode cX1_store 21 = .ok (.getfield 11, 3) := by decide +kernel
theorem dX1_store_24 : decode cX1_store 24 = .ok (.iload_n 1, 1) := by decide +kernel
theorem dX1_store_25 : decode cX1_store 25 = .ok (.aaload, 1) := by decide +kernel
theorem dX1_store_26 : decode cX1_store 26 = .ok (.aload_n 2, 1) := by decide +kernel
theorem dX1_store_27 : decode cX1_store 27 = .ok (.invokevirtual 24, 3) := by decide +kernel
theorem dX1_store_30 : decode cX1_store 30 = .ok (.iload_n 1, 1) := by decide +kernel
theorem dX1_store_31 : decode cX1_store 31 = .ok (.aload_n 0, 1) := by decide +kernel
theorem dX1_store_32 : decode cX1_store 32 = .ok (.getfield 20, 3) := by decide +kernel
theorem dX1_store_35 : decode cX1_store 35 = .ok (.if_icmp .ne 13, 3) := by decide +kernel
theorem dX1_store_38 : decode cX1_store 38 = .ok (.aload_n 0, 1) := by decide +kernel
theorem dX1_store_39 : decode cX1_store 39 = .ok (.dup, 1) := by decide +kernel
theorem dX1_store_40 : decode cX1_store 40 = .ok (.getfield 20, 3) := by decide +kernel
theorem dX1_store_43 : decode cX1_store 43 = .ok (.iconst 1, 1) := by decide +kernel
theorem dX1_store_44 : decode cX1_store 44 = .ok (.iadd, 1) := by decide +kernel
theorem dX1_store_45 : decode cX1_store 45 = .ok (.putfield 20, 3) := by decide +kernel
theorem dX1_store_48 : decode cX1_store 48 = .ok (.iconst 1, 1) := by decide +kernel
theorem dX1_store_49 : decode cX1_store 49 = .ok (.ireturn, 1) := by decide +kernel
theorem dX2_init_0 : decode cX2_init 0 = .ok (.aload_n 0, 1) := by decide +kernel
theorem dX2_init_1 : decode cX2_init 1 = .ok (.invokespecial 3, 3) := by decide +kernel
theorem dX2_init_4 : decode cX2_init 4 = .ok (.aload_n 0, 1) := by decide +kernel
theorem dX2_init_5 : decode cX2_init 5 = .ok (.new 9, 3) := by decide +kernel
theorem dX2_init_8 : decode cX2_init 8 = .ok (.dup, 1) := by decide +kernel
theorem dX2_init_9 : decode cX2_init 9 = .ok (.sipush 600, 3) := by decide +kernel
theorem dX2_init_12 : decode cX2_init 12 = .ok (.invokespecial 11, 3) := by decide +kernel
theorem dX2_init_15 : decode cX2_init 15 = .ok (.putfield 14, 3) := by decide +kernel
theorem dX2_init_18 : decode cX2_init 18 = .ok (.aload_n 0, 1) := by decide +kernel
theorem dX2_init_19 : decode cX2_init 19 = .ok (.bipush 75, 2) := by decide +kernel
theorem dX2_init_21 : decode cX2_init 21 = .ok (.newarray .int, 2) := by decide +kernel
theorem dX2_init_23 : decode cX2_init 23 = .ok (.putfield 20, 3) := by decide +kernel
theorem dX2_init_26 : decode cX2_init 26 = .ok (.return_, 1) := by decide +kernel
theorem dX2_isThere_0 : decode cX2_isThere 0 = .ok (.aload_n 0, 1) := by decide +kernel
theorem dX2_isThere_1 : decode cX2_isThere 1 = .ok (.getfield 24, 3) := by decide +kernel
theorem dX2_isThere_4 : decode cX2_isThere 4 = .ok (.ireturn, 1) := by decide +kernel
theorem dX2_isOf_0 : decode cX2_isOf 0 = .ok (.aload_n 0, 1) := by decide +kernel
theorem dX2_isOf_1 : decode cX2_isOf 1 = .ok (.getfield 24, 3) := by decide +kernel
theorem dX2_isOf_4 : decode cX2_isOf 4 = .ok (.ifCond .eq 23, 3) := by decide +kernel
theorem dX2_isOf_7 : decode cX2_isOf 7 = .ok (.aload_n 0, 1) := by decide +kernel
theorem dX2_isOf_8 : decode cX2_isOf 8 = .ok (.getfield 28, 3) := by decide +kernel
theorem dX2_isOf_11 : decode cX2_isOf 11 = .ok (.iload_n 1, 1) := by decide +kernel
theorem dX2_isOf_12 : decode cX2_isOf 12 = .ok (.if_icmp .ne 15, 3) := by decide +kernel
theorem dX2_isOf_15 : decode cX2_isOf 15 = .ok (.aload_n 0, 1) := by decide +kernel
theorem dX2_isOf_16 : decode cX2_isOf 16 = .ok (.getfield 32, 3) := by decide +kernel
theorem dX2_isOf_19 : decode cX2_isOf 19 = .ok (.iload_n 2, 1) := by decide +kernel
theorem dX2_isOf_20 : decode cX2_isOf 20 = .ok (.if_icmp .ne 7, 3) := by decide +kernel
theorem dX2_isOf_23 : decode cX2_isOf 23 = .ok (.iconst 1, 1) := by decide +kernel
theorem dX2_isOf_24 : decode cX2_isOf 24 = .ok (.goto 4, 3) := by decide +kernel
theorem dX2_isOf_27 : decode cX2_isOf 27 = .ok (.iconst 0, 1) := by decide +kernel
theorem dX2_isOf_28 : decode cX2_isOf 28 = .ok (.ireturn, 1) := by decide +kernel
theorem dX2_beganBy_0 : decode cX2_beganBy 0 = .ok (.aload_n 0, 1) := by decide +kernel
theorem dX2_beganBy_1 : decode cX2_beganBy 1 = .ok (.getfield 24, 3) := by decide +kernel
theorem dX2_beganBy_4 : decode cX2_beganBy 4 = .ok (.ifCond .eq 15, 3) := by decide +kernel
theorem dX2_beganBy_7 : decode cX2_beganBy 7 = .ok (.aload_n 0, 1) := by decide +kernel
theorem dX2_beganBy_8 : decode cX2_beganBy 8 = .ok (.getfield 35, 3) := by decide +kernel
theorem dX2_beganBy_11 : decode cX2_beganBy 11 = .ok (.iload_n 1, 1) := by decide +kernel
theorem dX2_beganBy_12 : decode cX2_beganBy 12 = .ok (.if_icmp .gt 7, 3) := by decide +kernel
theorem dX2_beganBy_15 : decode cX2_beganBy 15 = .ok (.iconst 1, 1) := by decide +kernel
theorem dX2_beganBy_16 : decode cX2_beganBy 16 = .ok (.goto 4, 3) := by decide +kernel
theorem dX2_beganBy_19 : decode cX2_beganBy 19 = .ok (.iconst 0, 1) := by decide +kernel
theorem dX2_beganBy_20 : decode cX2_beganBy 20 = .ok (.ireturn, 1) := by decide +kernel
theorem dX2_parts_0 : decode cX2_parts 0 = .ok (.aload_n 0, 1) := by decide +kernel
theorem dX2_parts_1 : decode cX2_parts 1 = .ok (.getfield 24, 3) := by decide +kernel
theorem dX2_parts_4 : decode cX2_parts 4 = .ok (.ifCond .eq 10, 3) := by decide +kernel
theorem dX2_parts_7 : decode cX2_parts 7 = .ok (.aload_n 0, 1) := by decide +kernel
theorem dX2_parts_8 : decode cX2_parts 8 = .ok (.getfield 38, 3) := by decide +kernel
theorem dX2_parts_11 : decode cX2_parts 11 = .ok (.goto 4, 3) := by decide +kernel
theorem dX2_parts_14 : decode cX2_parts 14 = .ok (.iconst 0, 1) := by decide +kernel
theorem dX2_parts_15 : decode cX2_parts 15 = .ok (.ireturn, 1) := by decide +kernel
theorem dX2_bytes_0 : decode cX2_bytes 0 = .ok (.aload_n 0, 1) := by decide +kernel
theorem dX2_bytes_1 : decode cX2_bytes 1 = .ok (.getfield 24, 3) := by decide +kernel
theorem dX2_bytes_4 : decode cX2_bytes 4 = .ok (.ifCond .eq 10, 3) := by decide +kernel
theorem dX2_bytes_7 : decode cX2_bytes 7 = .ok (.aload_n 0, 1) := by decide +kernel
theorem dX2_bytes_8 : decode cX2_bytes 8 = .ok (.getfield 41, 3) := by decide +kernel
theorem dX2_bytes_11 : decode cX2_bytes 11 = .ok (.goto 4, 3) := by decide +kernel
theorem dX2_bytes_14 : decode cX2_bytes 14 = .ok (.iconst 0, 1) := by decide +kernel
theorem dX2_bytes_15 : decode cX2_bytes 15 = .ok (.ireturn, 1) := by decide +kernel
theorem dX2_content_0 : decode cX2_content 0 = .ok (.aload_n 0, 1) := by decide +kernel
theorem dX2_content_1 : decode cX2_content 1 = .ok (.getfield 14, 3) := by decide +kernel
theorem dX2_content_4 : decode cX2_content 4 = .ok (.areturn, 1) := by decide +kernel
theorem dX2_begin_0 : decode cX2_begin 0 = .ok (.aload_n 0, 1) := by decide +kernel
theorem dX2_begin_1 : decode cX2_begin 1 = .ok (.iconst 1, 1) := by decide +kernel
theorem dX2_begin_2 : decode cX2_begin 2 = .ok (.putfield 24, 3) := by decide +kernel
theorem dX2_begin_5 : decode cX2_begin 5 = .ok (.aload_n 0, 1) := by decide +kernel
theorem dX2_begin_6 : decode cX2_begin 6 = .ok (.iload_n 1, 1) := by decide +kernel
theorem dX2_begin_7 : decode cX2_begin 7 = .ok (.putfield 28, 3) := by decide +kernel
theorem dX2_begin_10 : decode cX2_begin 10 = .ok (.aload_n 0, 1) := by decide +kernel
theorem dX2_begin_11 : decode cX2_begin 11 = .ok (.iload_n 2, 1) := by decide +kernel
theorem dX2_begin_12 : decode cX2_begin 12 = .ok (.putfield 32, 3) := by decide +kernel
theorem dX2_begin_15 : decode cX2_begin 15 = .ok (.aload_n 0, 1) := by decide +kernel
theorem dX2_begin_16 : decode cX2_begin 16 = .ok (.iload_n 3, 1) := by decide +kernel
theorem dX2_begin_17 : decode cX2_begin 17 = .ok (.putfield 35, 3) := by decide +kernel
theorem dX2_begin_20 : decode cX2_begin 20 = .ok (.aload_n 0, 1) := by decide +kernel
theorem dX2_begin_21 : decode cX2_begin 21 = .ok (.iconst 0, 1) := by decide +kernel
theorem dX2_begin_22 : decode cX2_begin 22 = .ok (.putfield 38, 3) := by decide +kernel
theorem dX2_begin_25 : decode cX2_begin 25 = .ok (.aload_n 0, 1) := by decide +kernel
theorem dX2_begin_26 : decode cX2_begin 26 = .ok (.iconst 0, 1) := by decide +kernel
theorem dX2_begin_27 : decode cX2_begin 27 = .ok (.putfield 41, 3) := by decide +kernel
theorem dX2_begin_30 : decode cX2_begin 30 = .ok (.aload_n 0, 1) := by decide +kernel
theorem dX2_begin_31 : decode cX2_begin 31 = .ok (.getfield 14, 3) := by decide +kernel
theorem dX2_begin_34 : decode cX2_begin 34 = .ok (.iload_n 1, 1) := by decide +kernel
theorem dX2_begin_35 : decode cX2_begin 35 = .ok (.invokevirtual 44, 3) := by decide +kernel
theorem dX2_begin_38 : decode cX2_begin 38 = .ok (.iconst 0, 1) := by decide +kernel
theorem dX2_begin_39 : decode cX2_begin 39 = .ok (.istore 4, 2) := by decide +kernel
theorem dX2_begin_41 : decode cX2_begin 41 = .ok (.iload 4, 2) := by decide +kernel
theorem dX2_begin_43 : decode cX2_begin 43 = .ok (.bipush 75, 2) := by decide +kernel
theorem dX2_begin_45 : decode cX2_begin 45 = .ok (.if_icmp .ge 17, 3) := by decide +kernel
theorem dX2_begin_48 : decode cX2_begin 48 = .ok (.aload_n 0, 1) := by decide +kernel
theorem dX2_begin_49 : decode cX2_begin 49 = .ok (.getfield 20, 3) := by decide +kernel
theorem dX2_begin_52 : decode cX2_begin 52 = .ok (.iload 4, 2) := by decide +kernel
theorem dX2_begin_54 : decode cX2_begin 54 = .ok (.iconst 0, 1) := by decide +kernel
theorem dX2_begin_55 : decode cX2_begin 55 = .ok (.iastore, 1) := by decide +kernel
theorem dX2_begin_56 : decode cX2_begin 56 = .ok (.iinc 4 1, 3) := by decide +kernel
theorem dX2_begin_59 : decode cX2_begin 59 = .ok (.goto (-18), 3) := by decide +kernel
theorem dX2_begin_62 : decode cX2_begin 62 = .ok (.return_, 1) := by decide +kernel
theorem dX2_end_0 : decode cX2_end 0 = .ok (.aload_n 0, 1) := by decide +kernel
theorem dX2_end_1 : decode cX2_end 1 = .ok (.iconst 0, 1) := by decide +kernel
theorem dX2_end_2 : decode cX2_end 2 = .ok (.putfield 24, 3) := by decide +kernel
theorem dX2_end_5 : decode cX2_end 5 = .ok (.return_, 1) := by decide +kernel
theorem dX2_hasJust_0 : decode cX2_hasJust 0 = .ok (.iload_n 1, 1) := by decide +kernel
theorem dX2_hasJust_1 : decode cX2_hasJust 1 = .ok (.bipush 8, 2) := by decide +kernel
theorem dX2_hasJust_3 : decode cX2_hasJust 3 = .ok (.idiv, 1) := by decide +kernel
theorem dX2_hasJust_4 : decode cX2_hasJust 4 = .ok (.istore_n 3, 1) := by decide +kernel
theorem dX2_hasJust_5 : decode cX2_hasJust 5 = .ok (.iload_n 3, 1) := by decide +kernel
theorem dX2_hasJust_6 : decode cX2_hasJust 6 = .ok (.ifCond .lt 23, 3) := by decide +kernel
theorem dX2_hasJust_9 : decode cX2_hasJust 9 = .ok (.iload_n 3, 1) := by decide +kernel
theorem dX2_hasJust_10 : decode cX2_hasJust 10 = .ok (.bipush 75, 2) := by decide +kernel
theorem dX2_hasJust_12 : decode cX2_hasJust 12 = .ok (.if_icmp .ge 17, 3) := by decide +kernel
theorem dX2_hasJust_15 : decode cX2_hasJust 15 = .ok (.aload_n 0, 1) := by decide +kernel
theorem dX2_hasJust_16 : decode cX2_hasJust 16 = .ok (.getfield 20, 3) := by decide +kernel
theorem dX2_hasJust_19 : decode cX2_hasJust 19 = .ok (.iload_n 3, 1) := by decide +kernel
theorem dX2_hasJust_20 : decode cX2_hasJust 20 = .ok (.iaload, 1) := by decide +kernel
theorem dX2_hasJust_21 : decode cX2_hasJust 21 = .ok (.iload_n 2, 1) := by decide +kernel
theorem dX2_hasJust_22 : decode cX2_hasJust 22 = .ok (.if_icmp .ne 7, 3) := by decide +kernel
theorem dX2_hasJust_25 : decode cX2_hasJust 25 = .ok (.iconst 1, 1) := by decide +kernel
theorem dX2_hasJust_26 : decode cX2_hasJust 26 = .ok (.goto 4, 3) := by decide +kernel
theorem dX2_hasJust_29 : decode cX2_hasJust 29 = .ok (.iconst 0, 1) := by decide +kernel
theorem dX2_hasJust_30 : decode cX2_hasJust 30 = .ok (.ireturn, 1) := by decide +kernel
theorem dX2_meets_0 : decode cX2_meets 0 = .ok (.iconst 0, 1) := by decide +kernel
theorem dX2_meets_1 : decode cX2_meets 1 = .ok (.istore_n 3, 1) := by decide +kernel
theorem dX2_meets_2 : decode cX2_meets 2 = .ok (.iload_n 3, 1) := by decide +kernel
theorem dX2_meets_3 : decode cX2_meets 3 = .ok (.bipush 75, 2) := by decide +kernel
theorem dX2_meets_5 : decode cX2_meets 5 = .ok (.if_icmp .ge 47, 3) := by decide +kernel
theorem dX2_meets_8 : decode cX2_meets 8 = .ok (.bipush 8, 2) := by decide +kernel
theorem dX2_meets_10 : decode cX2_meets 10 = .ok (.iload_n 3, 1) := by decide +kernel
theorem dX2_meets_11 : decode cX2_meets 11 = .ok (.imul, 1) := by decide +kernel
theorem dX2_meets_12 : decode cX2_meets 12 = .ok (.istore 4, 2) := by decide +kernel
theorem dX2_meets_14 : decode cX2_meets 14 = .ok (.aload_n 0, 1) := by decide +kernel
theorem dX2_meets_15 : decode cX2_meets 15 = .ok (.getfield 20, 3) := by decide +kernel
theorem dX2_meets_18 : decode cX2_meets 18 = .ok (.iload_n 3, 1) := by decide +kernel
theorem dX2_meets_19 : decode cX2_meets 19 = .ok (.iaload, 1) := by decide +kernel
theorem dX2_meets_20 : decode cX2_meets 20 = .ok (.ifCond .le 26, 3) := by decide +kernel
theorem dX2_meets_23 : decode cX2_meets 23 = .ok (.iload 4, 2) := by decide +kernel
theorem dX2_meets_25 : decode cX2_meets 25 = .ok (.iload_n 1, 1) := by decide +kernel
theorem dX2_meets_26 : decode cX2_meets 26 = .ok (.iload_n 2, 1) := by decide +kernel
theorem dX2_meets_27 : decode cX2_meets 27 = .ok (.iadd, 1) := by decide +kernel
theorem dX2_meets_28 : decode cX2_meets 28 = .ok (.if_icmp .ge 18, 3) := by decide +kernel
theorem dX2_meets_31 : decode cX2_meets 31 = .ok (.iload_n 1, 1) := by decide +kernel
theorem dX2_meets_32 : decode cX2_meets 32 = .ok (.iload 4, 2) := by decide +kernel
theorem dX2_meets_34 : decode cX2_meets 34 = .ok (.aload_n 0, 1) := by decide +kernel
theorem dX2_meets_35 : decode cX2_meets 35 = .ok (.getfield 20, 3) := by decide +kernel
theorem dX2_meets_38 : decode cX2_meets 38 = .ok (.iload_n 3, 1) := by decide +kernel
theorem dX2_meets_39 : decode cX2_meets 39 = .ok (.iaload, 1) := by decide +kernel
theorem dX2_meets_40 : decode cX2_meets 40 = .ok (.iadd, 1) := by decide +kernel
theorem dX2_meets_41 : decode cX2_meets 41 = .ok (.if_icmp .ge 5, 3) := by decide +kernel
theorem dX2_meets_44 : decode cX2_meets 44 = .ok (.iconst 1, 1) := by decide +kernel
theorem dX2_meets_45 : decode cX2_meets 45 = .ok (.ireturn, 1) := by decide +kernel
theorem dX2_meets_46 : decode cX2_meets 46 = .ok (.iinc 3 1, 3) := by decide +kernel
theorem dX2_meets_49 : decode cX2_meets 49 = .ok (.goto (-47), 3) := by decide +kernel
theorem dX2_meets_52 : decode cX2_meets 52 = .ok (.iconst 0, 1) := by decide +kernel
theorem dX2_meets_53 : decode cX2_meets 53 = .ok (.ireturn, 1) := by decide +kernel
theorem dX2_keep_0 : decode cX2_keep 0 = .ok (.aload_n 2, 1) := by decide +kernel
theorem dX2_keep_1 : decode cX2_keep 1 = .ok (.invokevirtual 47, 3) := by decide +kernel
theorem dX2_keep_4 : decode cX2_keep 4 = .ok (.iload_n 3, 1) := by decide +kernel
theorem dX2_keep_5 : decode cX2_keep 5 = .ok (.isub, 1) := by decide +kernel
theorem dX2_keep_6 : decode cX2_keep 6 = .ok (.istore 4, 2) := by decide +kernel
theorem dX2_keep_8 : decode cX2_keep 8 = .ok (.iload_n 1, 1) := by decide +kernel
theorem dX2_keep_9 : decode cX2_keep 9 = .ok (.bipush 8, 2) := by decide +kernel
theorem dX2_keep_11 : decode cX2_keep 11 = .ok (.idiv, 1) := by decide +kernel
theorem dX2_keep_12 : decode cX2_keep 12 = .ok (.istore 5, 2) := by decide +kernel
theorem dX2_keep_14 : decode cX2_keep 14 = .ok (.iload 5, 2) := by decide +kernel
theorem dX2_keep_16 : decode cX2_keep 16 = .ok (.ifCond .lt 10, 3) := by decide +kernel
theorem dX2_keep_19 : decode cX2_keep 19 = .ok (.iload 5, 2) := by decide +kernel
theorem dX2_keep_21 : decode cX2_keep 21 = .ok (.bipush 75, 2) := by decide +kernel
theorem dX2_keep_23 : decode cX2_keep 23 = .ok (.if_icmp .lt 4, 3) := by decide +kernel
theorem dX2_keep_26 : decode cX2_keep 26 = .ok (.return_, 1) := by decide +kernel
theorem dX2_keep_27 : decode cX2_keep 27 = .ok (.aload_n 0, 1) := by decide +kernel
theorem dX2_keep_28 : decode cX2_keep 28 = .ok (.getfield 20, 3) := by decide +kernel
theorem dX2_keep_31 : decode cX2_keep 31 = .ok (.iload 5, 2) := by decide +kernel
theorem dX2_keep_33 : decode cX2_keep 33 = .ok (.iload 4, 2) := by decide +kernel
theorem dX2_keep_35 : decode cX2_keep 35 = .ok (.iastore, 1) := by decide +kernel
theorem dX2_keep_36 : decode cX2_keep 36 = .ok (.aload_n 0, 1) := by decide +kernel
theorem dX2_keep_37 : decode cX2_keep 37 = .ok (.dup, 1) := by decide +kernel
theorem dX2_keep_38 : decode cX2_keep 38 = .ok (.getfield 38, 3) := by decide +kernel
theorem dX2_keep_41 : decode cX2_keep 41 = .ok (.iconst 1, 1) := by decide +kernel
theorem dX2_keep_42 : decode cX2_keep 42 = .ok (.iadd, 1) := by decide +kernel
theorem dX2_keep_43 : decode cX2_keep 43 = .ok (.putfield 38, 3) := by decide +kernel
theorem dX2_keep_46 : decode cX2_keep 46 = .ok (.aload_n 0, 1) := by decide +kernel
theorem dX2_keep_47 : decode cX2_keep 47 = .ok (.dup, 1) := by decide +kernel
theorem dX2_keep_48 : decode cX2_keep 48 = .ok (.getfield 41, 3) := by decide +kernel
theorem dX2_keep_51 : decode cX2_keep 51 = .ok (.iload 4, 2) := by decide +kernel
theorem dX2_keep_53 : decode cX2_keep 53 = .ok (.iadd, 1) := by decide +kernel
theorem dX2_keep_54 : decode cX2_keep 54 = .ok (.putfield 41, 3) := by decide +kernel
theorem dX2_keep_57 : decode cX2_keep 57 = .ok (.iconst 0, 1) := by decide +kernel
theorem dX2_keep_58 : decode cX2_keep 58 = .ok (.istore 6, 2) := by decide +kernel
theorem dX2_keep_60 : decode cX2_keep 60 = .ok (.iload 6, 2) := by decide +kernel
theorem dX2_keep_62 : decode cX2_keep 62 = .ok (.iload 4, 2) := by decide +kernel
theorem dX2_keep_64 : decode cX2_keep 64 = .ok (.if_icmp .ge 28, 3) := by decide +kernel
theorem dX2_keep_67 : decode cX2_keep 67 = .ok (.aload_n 0, 1) := by decide +kernel
theorem dX2_keep_68 : decode cX2_keep 68 = .ok (.getfield 14, 3) := by decide +kernel
theorem dX2_keep_71 : decode cX2_keep 71 = .ok (.iload_n 1, 1) := by decide +kernel
theorem dX2_keep_72 : decode cX2_keep 72 = .ok (.iload 6, 2) := by decide +kernel
theorem dX2_keep_74 : decode cX2_keep 74 = .ok (.iadd, 1) := by decide +kernel
theorem dX2_keep_75 : decode cX2_keep 75 = .ok (.aload_n 2, 1) := by decide +kernel
theorem dX2_keep_76 : decode cX2_keep 76 = .ok (.iload_n 3, 1) := by decide +kernel
theorem dX2_keep_77 : decode cX2_keep 77 = .ok (.iload 6, 2) := by decide +kernel
theorem dX2_keep_79 : decode cX2_keep 79 = .ok (.iadd, 1) := by decide +kernel
theorem dX2_keep_80 : decode cX2_keep 80 = .ok (.invokevirtual 51, 3) := by decide +kernel
theorem dX2_keep_83 : decode cX2_keep 83 = .ok (.invokevirtual 55, 3) := by decide +kernel
theorem dX2_keep_86 : decode cX2_keep 86 = .ok (.iinc 6 1, 3) := by decide +kernel
theorem dX2_keep_89 : decode cX2_keep 89 = .ok (.goto (-29), 3) := by decide +kernel
theorem dX2_keep_92 : decode cX2_keep 92 = .ok (.return_, 1) := by decide +kernel
theorem dX2_isWhole_0 : decode cX2_isWhole 0 = .ok (.aload_n 0, 1) := by decide +kernel
theorem dX2_isWhole_1 : decode cX2_isWhole 1 = .ok (.getfield 24, 3) := by decide +kernel
theorem dX2_isWhole_4 : decode cX2_isWhole 4 = .ok (.ifCond .eq 18, 3) := by decide +kernel
theorem dX2_isWhole_7 : decode cX2_isWhole 7 = .ok (.aload_n 0, 1) := by decide +kernel
theorem dX2_isWhole_8 : decode cX2_isWhole 8 = .ok (.getfield 41, 3) := by decide +kernel
theorem dX2_isWhole_11 : decode cX2_isWhole 11 = .ok (.aload_n 0, 1) := by decide +kernel
theorem dX2_isWhole_12 : decode cX2_isWhole 12 = .ok (.getfield 28, 3) := by decide +kernel
theorem dX2_isWhole_15 : decode cX2_isWhole 15 = .ok (.if_icmp .ne 7, 3) := by decide +kernel
theorem dX2_isWhole_18 : decode cX2_isWhole 18 = .ok (.iconst 1, 1) := by decide +kernel
theorem dX2_isWhole_19 : decode cX2_isWhole 19 = .ok (.goto 4, 3) := by decide +kernel
theorem dX2_isWhole_22 : decode cX2_isWhole 22 = .ok (.iconst 0, 1) := by decide +kernel
theorem dX2_isWhole_23 : decode cX2_isWhole 23 = .ok (.ireturn, 1) := by decide +kernel
theorem dX3_init_0 : decode cX3_init 0 = .ok (.aload_n 0, 1) := by decide +kernel
theorem dX3_init_1 : decode cX3_init 1 = .ok (.invokespecial 1, 3) := by decide +kernel
theorem dX3_init_4 : decode cX3_init 4 = .ok (.aload_n 0, 1) := by decide +kernel
theorem dX3_init_5 : decode cX3_init 5 = .ok (.bipush 16, 2) := by decide +kernel
theorem dX3_init_7 : decode cX3_init 7 = .ok (.newarray .boolean, 2) := by decide +kernel
theorem dX3_init_9 : decode cX3_init 9 = .ok (.putfield 9, 3) := by decide +kernel
theorem dX3_init_12 : decode cX3_init 12 = .ok (.aload_n 0, 1) := by decide +kernel
theorem dX3_init_13 : decode cX3_init 13 = .ok (.bipush 16, 2) := by decide +kernel
theorem dX3_init_15 : decode cX3_init 15 = .ok (.newarray .long, 2) := by decide +kernel
theorem dX3_init_17 : decode cX3_init 17 = .ok (.putfield 13, 3) := by decide +kernel
theorem dX3_init_20 : decode cX3_init 20 = .ok (.aload_n 0, 1) := by decide +kernel
theorem dX3_init_21 : decode cX3_init 21 = .ok (.ldc2_w 17, 3) := by decide +kernel
theorem dX3_init_24 : decode cX3_init 24 = .ok (.putfield 19, 3) := by decide +kernel
theorem dX3_init_27 : decode cX3_init 27 = .ok (.aload_n 0, 1) := by decide +kernel
theorem dX3_init_28 : decode cX3_init 28 = .ok (.ldc2_w 17, 3) := by decide +kernel
theorem dX3_init_31 : decode cX3_init 31 = .ok (.putfield 23, 3) := by decide +kernel
theorem dX3_init_34 : decode cX3_init 34 = .ok (.return_, 1) := by decide +kernel
theorem dX3_isThere_0 : decode cX3_isThere 0 = .ok (.iload_n 1, 1) := by decide +kernel
theorem dX3_isThere_1 : decode cX3_isThere 1 = .ok (.ifCond .lt 22, 3) := by decide +kernel
theorem dX3_isThere_4 : decode cX3_isThere 4 = .ok (.iload_n 1, 1) := by decide +kernel
theorem dX3_isThere_5 : decode cX3_isThere 5 = .ok (.bipush 16, 2) := by decide +kernel
theorem dX3_isThere_7 : decode cX3_isThere 7 = .ok (.if_icmp .ge 16, 3) := by decide +kernel
theorem dX3_isThere_10 : decode cX3_isThere 10 = .ok (.aload_n 0, 1) := by decide +kernel
theorem dX3_isThere_11 : decode cX3_isThere 11 = .ok (.getfield 9, 3) := by decide +kernel
theorem dX3_isThere_14 : decode cX3_isThere 14 = .ok (.iload_n 1, 1) := by decide +kernel
theorem dX3_isThere_15 : decode cX3_isThere 15 = .ok (.baload, 1) := by decide +kernel
theorem dX3_isThere_16 : decode cX3_isThere 16 = .ok (.ifCond .eq 7, 3) := by decide +kernel
theorem dX3_isThere_19 : decode cX3_isThere 19 = .ok (.iconst 1, 1) := by decide +kernel
theorem dX3_isThere_20 : decode cX3_isThere 20 = .ok (.goto 4, 3) := by decide +kernel
theorem dX3_isThere_23 : decode cX3_isThere 23 = .ok (.iconst 0, 1) := by decide +kernel
theorem dX3_isThere_24 : decode cX3_isThere 24 = .ok (.ireturn, 1) := by decide +kernel
theorem dX3_contextOf_0 : decode cX3_contextOf 0 = .ok (.aload_n 0, 1) := by decide +kernel
theorem dX3_contextOf_1 : decode cX3_contextOf 1 = .ok (.iload_n 1, 1) := by decide +kernel
theorem dX3_contextOf_2 : decode cX3_contextOf 2 = .ok (.invokevirtual 26, 3) := by decide +kernel
theorem dX3_contextOf_5 : decode cX3_contextOf 5 = .ok (.ifCond .eq 12, 3) := by decide +kernel
theorem dX3_contextOf_8 : decode cX3_contextOf 8 = .ok (.aload_n 0, 1) := by decide +kernel
theorem dX3_contextOf_9 : decode cX3_contextOf 9 = .ok (.getfield 13, 3) := by decide +kernel
theorem dX3_contextOf_12 : decode cX3_contextOf 12 = .ok (.iload_n 1, 1) := by decide +kernel
theorem dX3_contextOf_13 : decode cX3_contextOf 13 = .ok (.laload, 1) := by decide +kernel
theorem dX3_contextOf_14 : decode cX3_contextOf 14 = .ok (.goto 4, 3) := by decide +kernel
theorem dX3_contextOf_17 : decode cX3_contextOf 17 = .ok (.lconst 0, 1) := by decide +kernel
theorem dX3_contextOf_18 : decode cX3_contextOf 18 = .ok (.lreturn, 1) := by decide +kernel
theorem dX3_setContext_0 : decode cX3_setContext 0 = .ok (.iload_n 1, 1) := by decide +kernel
theorem dX3_setContext_1 : decode cX3_setContext 1 = .ok (.ifCond .lt 23, 3) := by decide +kernel
theorem dX3_setContext_4 : decode cX3_setContext 4 = .ok (.iload_n 1, 1) := by decide +kernel
theorem dX3_setContext_5 : decode cX3_setContext 5 = .ok (.bipush 16, 2) := by decide +kernel
theorem dX3_setContext_7 : decode cX3_setContext 7 = .ok (.if_icmp .ge 17, 3) := by decide +kernel
theorem dX3_setContext_10 : decode cX3_setContext 10 = .ok (.aload_n 0, 1) := by decide +kernel
theorem dX3_setContext_11 : decode cX3_setContext 11 = .ok (.getfield 9, 3) := by decide +kernel
theorem dX3_setContext_14 : decode cX3_setContext 14 = .ok (.iload_n 1, 1) := by decide +kernel
theorem dX3_setContext_15 : decode cX3_setContext 15 = .ok (.iload_n 2, 1) := by decide +kernel
theorem dX3_setContext_16 : decode cX3_setContext 16 = .ok (.bastore, 1) := by decide +kernel
theorem dX3_setContext_17 : decode cX3_setContext 17 = .ok (.aload_n 0, 1) := by decide +kernel
theorem dX3_setContext_18 : decode cX3_setContext 18 = .ok (.getfield 13, 3) := by decide +kernel
theorem dX3_setContext_21 : decode cX3_setContext 21 = .ok (.iload_n 1, 1) := by decide +kernel
theorem dX3_setContext_22 : decode cX3_setContext 22 = .ok (.lload_n 3, 1) := by decide +kernel
theorem dX3_setContext_23 : decode cX3_setContext 23 = .ok (.lastore, 1) := by decide +kernel
theorem dX3_setContext_24 : decode cX3_setContext 24 = .ok (.return_, 1) := by decide +kernel
theorem dX3_setLink_0 : decode cX3_setLink 0 = .ok (.iload_n 2, 1) := by decide +kernel
theorem dX3_setLink_1 : decode cX3_setLink 1 = .ok (.ifCond .eq 11, 3) := by decide +kernel
theorem dX3_setLink_4 : decode cX3_setLink 4 = .ok (.lload_n 3, 1) := by decide +kernel
theorem dX3_setLink_5 : decode cX3_setLink 5 = .ok (.ldc2_w 30, 3) := by decide +kernel
theorem dX3_setLink_8 : decode cX3_setLink 8 = .ok (.lxor, 1) := by decide +kernel
theorem dX3_setLink_9 : decode cX3_setLink 9 = .ok (.goto 12, 3) := by decide +kernel
theorem dX3_setLink_12 : decode cX3_setLink 12 = .ok (.ldc2_w 17, 3) := by decide +kernel
theorem dX3_setLink_15 : decode cX3_setLink 15 = .ok (.lload_n 3, 1) := by decide +kernel
theorem dX3_setLink_16 : decode cX3_setLink 16 = .ok (.ldc2_w 32, 3) := by decide +kernel
theorem dX3_setLink_19 : decode cX3_setLink 19 = .ok (.land, 1) := by decide +kernel
theorem dX3_setLink_20 : decode cX3_setLink 20 = .ok (.lor, 1) := by decide +kernel
theorem dX3_setLink_21 : decode cX3_setLink 21 = .ok (.lstore 5, 2) := by decide +kernel
theorem dX3_setLink_23 : decode cX3_setLink 23 = .ok (.iload_n 1, 1) := by decide +kernel
theorem dX3_setLink_24 : decode cX3_setLink 24 = .ok (.ifCond .ne 12, 3) := by decide +kernel
theorem dX3_setLink_27 : decode cX3_setLink 27 = .ok (.aload_n 0, 1) := by decide +kernel
theorem dX3_setLink_28 : decode cX3_setLink 28 = .ok (.lload 5, 2) := by decide +kernel
theorem dX3_setLink_30 : decode cX3_setLink 30 = .ok (.putfield 19, 3) := by decide +kernel
theorem dX3_setLink_33 : decode cX3_setLink 33 = .ok (.goto 9, 3) := by decide +kernel
theorem dX3_setLink_36 : decode cX3_setLink 36 = .ok (.aload_n 0, 1) := by decide +kernel
theorem dX3_setLink_37 : decode cX3_setLink 37 = .ok (.lload 5, 2) := by decide +kernel
theorem dX3_setLink_39 : decode cX3_setLink 39 = .ok (.putfield 23, 3) := by decide +kernel
theorem dX3_setLink_42 : decode cX3_setLink 42 = .ok (.return_, 1) := by decide +kernel
theorem dX3_own_0 : decode cX3_own 0 = .ok (.iload_n 1, 1) := by decide +kernel
theorem dX3_own_1 : decode cX3_own 1 = .ok (.ifCond .ne 10, 3) := by decide +kernel
theorem dX3_own_4 : decode cX3_own 4 = .ok (.aload_n 0, 1) := by decide +kernel
theorem dX3_own_5 : decode cX3_own 5 = .ok (.getfield 19, 3) := by decide +kernel
theorem dX3_own_8 : decode cX3_own 8 = .ok (.goto 7, 3) := by decide +kernel
theorem dX3_own_11 : decode cX3_own 11 = .ok (.aload_n 0, 1) := by decide +kernel
theorem dX3_own_12 : decode cX3_own 12 = .ok (.getfield 23, 3) := by decide +kernel
theorem dX3_own_15 : decode cX3_own 15 = .ok (.lreturn, 1) := by decide +kernel
theorem dX3_least_0 : decode cX3_least 0 = .ok (.iconst 0, 1) := by decide +kernel
theorem dX3_least_1 : decode cX3_least 1 = .ok (.istore_n 3, 1) := by decide +kernel
theorem dX3_least_2 : decode cX3_least 2 = .ok (.iload_n 3, 1) := by decide +kernel
theorem dX3_least_3 : decode cX3_least 3 = .ok (.bipush 16, 2) := by decide +kernel
theorem dX3_least_5 : decode cX3_least 5 = .ok (.if_icmp .ge 31, 3) := by decide +kernel
theorem dX3_least_8 : decode cX3_least 8 = .ok (.aload_n 0, 1) := by decide +kernel
theorem dX3_least_9 : decode cX3_least 9 = .ok (.getfield 9, 3) := by decide +kernel
theorem dX3_least_12 : decode cX3_least 12 = .ok (.iload_n 3, 1) := by decide +kernel
theorem dX3_least_13 : decode cX3_least 13 = .ok (.baload, 1) := by decide +kernel
theorem dX3_least_14 : decode cX3_least 14 = .ok (.ifCond .eq 16, 3) := by decide +kernel
theorem dX3_least_17 : decode cX3_least 17 = .ok (.aload_n 0, 1) := by decide +kernel
theorem dX3_least_18 : decode cX3_least 18 = .ok (.getfield 13, 3) := by decide +kernel
theorem dX3_least_21 : decode cX3_least 21 = .ok (.iload_n 3, 1) := by decide +kernel
theorem dX3_least_22 : decode cX3_least 22 = .ok (.laload, 1) := by decide +kernel
theorem dX3_least_23 : decode cX3_least 23 = .ok (.lload_n 1, 1) := by decide +kernel
theorem dX3_least_24 : decode cX3_least 24 = .ok (.lcmp, 1) := by decide +kernel
theorem dX3_least_25 : decode cX3_least 25 = .ok (.ifCond .ne 5, 3) := by decide +kernel
theorem dX3_least_28 : decode cX3_least 28 = .ok (.iload_n 3, 1) := by decide +kernel
theorem dX3_least_29 : decode cX3_least 29 = .ok (.ireturn, 1) := by decide +kernel
theorem dX3_least_30 : decode cX3_least 30 = .ok (.iinc 3 1, 3) := by decide +kernel
theorem dX3_least_33 : decode cX3_least 33 = .ok (.goto (-31), 3) := by decide +kernel
theorem dX3_least_36 : decode cX3_least 36 = .ok (.iconst (-1), 1) := by decide +kernel
theorem dX3_least_37 : decode cX3_least 37 = .ok (.ireturn, 1) := by decide +kernel
theorem dX4_bytesOf_0 : decode cX4_bytesOf 0 = .ok (.iload_n 0, 1) := by decide +kernel
theorem dX4_bytesOf_1 : decode cX4_bytesOf 1 = .ok (.ifCond .lt 19, 3) := by decide +kernel
theorem dX4_bytesOf_4 : decode cX4_bytesOf 4 = .ok (.iload_n 0, 1) := by decide +kernel
theorem dX4_bytesOf_5 : decode cX4_bytesOf 5 = .ok (.getstatic 7, 3) := by decide +kernel
theorem dX4_bytesOf_8 : decode cX4_bytesOf 8 = .ok (.arraylength, 1) := by decide +kernel
theorem dX4_bytesOf_9 : decode cX4_bytesOf 9 = .ok (.if_icmp .ge 11, 3) := by decide +kernel
theorem dX4_bytesOf_12 : decode cX4_bytesOf 12 = .ok (.getstatic 7, 3) := by decide +kernel
theorem dX4_bytesOf_15 : decode cX4_bytesOf 15 = .ok (.iload_n 0, 1) := by decide +kernel
theorem dX4_bytesOf_16 : decode cX4_bytesOf 16 = .ok (.iaload, 1) := by decide +kernel
theorem dX4_bytesOf_17 : decode cX4_bytesOf 17 = .ok (.goto 4, 3) := by decide +kernel
theorem dX4_bytesOf_20 : decode cX4_bytesOf 20 = .ok (.iconst 0, 1) := by decide +kernel
theorem dX4_bytesOf_21 : decode cX4_bytesOf 21 = .ok (.ireturn, 1) := by decide +kernel
theorem dX4_usesContext_0 : decode cX4_usesContext 0 = .ok (.iload_n 0, 1) := by decide +kernel
theorem dX4_usesContext_1 : decode cX4_usesContext 1 = .ok (.iconst 4, 1) := by decide +kernel
theorem dX4_usesContext_2 : decode cX4_usesContext 2 = .ok (.if_icmp .le 13, 3) := by decide +kernel
theorem dX4_usesContext_5 : decode cX4_usesContext 5 = .ok (.iload_n 0, 1) := by decide +kernel
theorem dX4_usesContext_6 : decode cX4_usesContext 6 = .ok (.bipush 8, 2) := by decide +kernel
theorem dX4_usesContext_8 : decode cX4_usesContext 8 = .ok (.if_icmp .ge 7, 3) := by decide +kernel
theorem dX4_usesContext_11 : decode cX4_usesContext 11 = .ok (.iconst 1, 1) := by decide +kernel
theorem dX4_usesContext_12 : decode cX4_usesContext 12 = .ok (.goto 4, 3) := by decide +kernel
theorem dX4_usesContext_15 : decode cX4_usesContext 15 = .ok (.iconst 0, 1) := by decide +kernel
theorem dX4_usesContext_16 : decode cX4_usesContext 16 = .ok (.ireturn, 1) := by decide +kernel
theorem dX4_ofSource_0 : decode cX4_ofSource 0 = .ok (.lload_n 1, 1) := by decide +kernel
theorem dX4_ofSource_1 : decode cX4_ofSource 1 = .ok (.lconst 0, 1) := by decide +kernel
theorem dX4_ofSource_2 : decode cX4_ofSource 2 = .ok (.lcmp, 1) := by decide +kernel
theorem dX4_ofSource_3 : decode cX4_ofSource 3 = .ok (.ifCond .ne 11, 3) := by decide +kernel
theorem dX4_ofSource_6 : decode cX4_ofSource 6 = .ok (.lload_n 3, 1) := by decide +kernel
theorem dX4_ofSource_7 : decode cX4_ofSource 7 = .ok (.lconst 0, 1) := by decide +kernel
theorem dX4_ofSource_8 : decode cX4_ofSource 8 = .ok (.lcmp, 1) := by decide +kernel
theorem dX4_ofSource_9 : decode cX4_ofSource 9 = .ok (.ifCond .ne 5, 3) := by decide +kernel
theorem dX4_ofSource_12 : decode cX4_ofSource 12 = .ok (.iconst 4, 1) := by decide +kernel
theorem dX4_ofSource_13 : decode cX4_ofSource 13 = .ok (.ireturn, 1) := by decide +kernel
theorem dX4_ofSource_14 : decode cX4_ofSource 14 = .ok (.aload_n 0, 1) := by decide +kernel
theorem dX4_ofSource_15 : decode cX4_ofSource 15 = .ok (.iconst 0, 1) := by decide +kernel
theorem dX4_ofSource_16 : decode cX4_ofSource 16 = .ok (.lload_n 1, 1) := by decide +kernel
theorem dX4_ofSource_17 : decode cX4_ofSource 17 = .ok (.lload_n 3, 1) := by decide +kernel
theorem dX4_ofSource_18 : decode cX4_ofSource 18 = .ok (.invokestatic 15, 3) := by decide +kernel
theorem dX4_ofSource_21 : decode cX4_ofSource 21 = .ok (.ireturn, 1) := by decide +kernel
theorem dX4_ofGoal_0 : decode cX4_ofGoal 0 = .ok (.lload_n 1, 1) := by decide +kernel
theorem dX4_ofGoal_1 : decode cX4_ofGoal 1 = .ok (.bipush 56, 2) := by decide +kernel
theorem dX4_ofGoal_3 : decode cX4_ofGoal 3 = .ok (.lushr, 1) := by decide +kernel
theorem dX4_ofGoal_4 : decode cX4_ofGoal 4 = .ok (.ldc2_w 19, 3) := by decide +kernel
theorem dX4_ofGoal_7 : decode cX4_ofGoal 7 = .ok (.lcmp, 1) := by decide +kernel
theorem dX4_ofGoal_8 : decode cX4_ofGoal 8 = .ok (.ifCond .ne 9, 3) := by decide +kernel
theorem dX4_ofGoal_11 : decode cX4_ofGoal 11 = .ok (.lload_n 1, 1) := by decide +kernel
theorem dX4_ofGoal_12 : decode cX4_ofGoal 12 = .ok (.lload_n 3, 1) := by decide +kernel
theorem dX4_ofGoal_13 : decode cX4_ofGoal 13 = .ok (.invokestatic 21, 3) := by decide +kernel
theorem dX4_ofGoal_16 : decode cX4_ofGoal 16 = .ok (.ireturn, 1) := by decide +kernel
theorem dX4_ofGoal_17 : decode cX4_ofGoal 17 = .ok (.aload_n 0, 1) := by decide +kernel
theorem dX4_ofGoal_18 : decode cX4_ofGoal 18 = .ok (.iconst 1, 1) := by decide +kernel
theorem dX4_ofGoal_19 : decode cX4_ofGoal 19 = .ok (.lload_n 1, 1) := by decide +kernel
theorem dX4_ofGoal_20 : decode cX4_ofGoal 20 = .ok (.lload_n 3, 1) := by decide +kernel
theorem dX4_ofGoal_21 : decode cX4_ofGoal 21 = .ok (.invokestatic 15, 3) := by decide +kernel
theorem dX4_ofGoal_24 : decode cX4_ofGoal 24 = .ok (.ireturn, 1) := by decide +kernel
theorem dX4_ofOne_0 : decode cX4_ofOne 0 = .ok (.lload_n 2, 1) := by decide +kernel
theorem dX4_ofOne_1 : decode cX4_ofOne 1 = .ok (.ldc2_w 25, 3) := by decide +kernel
theorem dX4_ofOne_4 : decode cX4_ofOne 4 = .ok (.lcmp, 1) := by decide +kernel
theorem dX4_ofOne_5 : decode cX4_ofOne 5 = .ok (.ifCond .ne 11, 3) := by decide +kernel
theorem dX4_ofOne_8 : decode cX4_ofOne 8 = .ok (.aload_n 0, 1) := by decide +kernel
theorem dX4_ofOne_9 : decode cX4_ofOne 9 = .ok (.iload_n 1, 1) := by decide +kernel
theorem dX4_ofOne_10 : decode cX4_ofOne 10 = .ok (.lload 4, 2) := by decide +kernel
theorem dX4_ofOne_12 : decode cX4_ofOne 12 = .ok (.invokestatic 27, 3) := by decide +kernel
theorem dX4_ofOne_15 : decode cX4_ofOne 15 = .ok (.ireturn, 1) := by decide +kernel
theorem dX4_ofOne_16 : decode cX4_ofOne 16 = .ok (.aload_n 0, 1) := by decide +kernel
theorem dX4_ofOne_17 : decode cX4_ofOne 17 = .ok (.lload_n 2, 1) := by decide +kernel
theorem dX4_ofOne_18 : decode cX4_ofOne 18 = .ok (.invokevirtual 31, 3) := by decide +kernel
theorem dX4_ofOne_21 : decode cX4_ofOne 21 = .ok (.iconst (-1), 1) := by decide +kernel
theorem dX4_ofOne_22 : decode cX4_ofOne 22 = .ok (.if_icmp .eq 13, 3) := by decide +kernel
theorem dX4_ofOne_25 : decode cX4_ofOne 25 = .ok (.iconst 4, 1) := by decide +kernel
theorem dX4_ofOne_26 : decode cX4_ofOne 26 = .ok (.aload_n 0, 1) := by decide +kernel
theorem dX4_ofOne_27 : decode cX4_ofOne 27 = .ok (.iload_n 1, 1) := by decide +kernel
theorem dX4_ofOne_28 : decode cX4_ofOne 28 = .ok (.lload 4, 2) := by decide +kernel
theorem dX4_ofOne_30 : decode cX4_ofOne 30 = .ok (.invokestatic 27, 3) := by decide +kernel
theorem dX4_ofOne_33 : decode cX4_ofOne 33 = .ok (.iadd, 1) := by decide +kernel
theorem dX4_ofOne_34 : decode cX4_ofOne 34 = .ok (.ireturn, 1) := by decide +kernel
theorem dX4_ofOne_35 : decode cX4_ofOne 35 = .ok (.iconst 0, 1) := by decide +kernel
theorem dX4_ofOne_36 : decode cX4_ofOne 36 = .ok (.ireturn, 1) := by decide +kernel
theorem dX4_ofLast_0 : decode cX4_ofLast 0 = .ok (.lload_n 2, 1) := by decide +kernel
theorem dX4_ofLast_1 : decode cX4_ofLast 1 = .ok (.aload_n 0, 1) := by decide +kernel
theorem dX4_ofLast_2 : decode cX4_ofLast 2 = .ok (.iload_n 1, 1) := by decide +kernel
theorem dX4_ofLast_3 : decode cX4_ofLast 3 = .ok (.invokevirtual 35, 3) := by decide +kernel
theorem dX4_ofLast_6 : decode cX4_ofLast 6 = .ok (.lcmp, 1) := by decide +kernel
theorem dX4_ofLast_7 : decode cX4_ofLast 7 = .ok (.ifCond .ne 5, 3) := by decide +kernel
theorem dX4_ofLast_10 : decode cX4_ofLast 10 = .ok (.iconst 3, 1) := by decide +kernel
theorem dX4_ofLast_11 : decode cX4_ofLast 11 = .ok (.ireturn, 1) := by decide +kernel
theorem dX4_ofLast_12 : decode cX4_ofLast 12 = .ok (.lload_n 2, 1) := by decide +kernel
theorem dX4_ofLast_13 : decode cX4_ofLast 13 = .ok (.bipush 16, 2) := by decide +kernel
theorem dX4_ofLast_15 : decode cX4_ofLast 15 = .ok (.lushr, 1) := by decide +kernel
theorem dX4_ofLast_16 : decode cX4_ofLast 16 = .ok (.ldc2_w 39, 3) := by decide +kernel
theorem dX4_ofLast_19 : decode cX4_ofLast 19 = .ok (.lcmp, 1) := by decide +kernel
theorem dX4_ofLast_20 : decode cX4_ofLast 20 = .ok (.ifCond .ne 7, 3) := by decide +kernel
theorem dX4_ofLast_23 : decode cX4_ofLast 23 = .ok (.iconst 2, 1) := by decide +kernel
theorem dX4_ofLast_24 : decode cX4_ofLast 24 = .ok (.goto 4, 3) := by decide +kernel
theorem dX4_ofLast_27 : decode cX4_ofLast 27 = .ok (.iconst 1, 1) := by decide +kernel
theorem dX4_ofLast_28 : decode cX4_ofLast 28 = .ok (.ireturn, 1) := by decide +kernel
theorem dX4_ofMany_0 : decode cX4_ofMany 0 = .ok (.lload_n 0, 1) := by decide +kernel
theorem dX4_ofMany_1 : decode cX4_ofMany 1 = .ok (.ldc2_w 41, 3) := by decide +kernel
theorem dX4_ofMany_4 : decode cX4_ofMany 4 = .ok (.land, 1) := by decide +kernel
theorem dX4_ofMany_5 : decode cX4_ofMany 5 = .ok (.lconst 0, 1) := by decide +kernel
theorem dX4_ofMany_6 : decode cX4_ofMany 6 = .ok (.lcmp, 1) := by decide +kernel
theorem dX4_ofMany_7 : decode cX4_ofMany 7 = .ok (.ifCond .ne 12, 3) := by decide +kernel
theorem dX4_ofMany_10 : decode cX4_ofMany 10 = .ok (.lload_n 2, 1) := by decide +kernel
theorem dX4_ofMany_11 : decode cX4_ofMany 11 = .ok (.bipush 40, 2) := by decide +kernel
theorem dX4_ofMany_13 : decode cX4_ofMany 13 = .ok (.lushr, 1) := by decide +kernel
theorem dX4_ofMany_14 : decode cX4_ofMany 14 = .ok (.lconst 0, 1) := by decide +kernel
theorem dX4_ofMany_15 : decode cX4_ofMany 15 = .ok (.lcmp, 1) := by decide +kernel
theorem dX4_ofMany_16 : decode cX4_ofMany 16 = .ok (.ifCond .eq 6, 3) := by decide +kernel
theorem dX4_ofMany_19 : decode cX4_ofMany 19 = .ok (.bipush 8, 2) := by decide +kernel
theorem dX4_ofMany_21 : decode cX4_ofMany 21 = .ok (.ireturn, 1) := by decide +kernel
theorem dX4_ofMany_22 : decode cX4_ofMany 22 = .ok (.lload_n 2, 1) := by decide +kernel
theorem dX4_ofMany_23 : decode cX4_ofMany 23 = .ok (.bipush 24, 2) := by decide +kernel
theorem dX4_ofMany_25 : decode cX4_ofMany 25 = .ok (.lushr, 1) := by decide +kernel
theorem dX4_ofMany_26 : decode cX4_ofMany 26 = .ok (.lconst 0, 1) := by decide +kernel
theorem dX4_ofMany_27 : decode cX4_ofMany 27 = .ok (.lcmp, 1) := by decide +kernel
theorem dX4_ofMany_28 : decode cX4_ofMany 28 = .ok (.ifCond .eq 6, 3) := by decide +kernel
theorem dX4_ofMany_31 : decode cX4_ofMany 31 = .ok (.bipush 9, 2) := by decide +kernel
theorem dX4_ofMany_33 : decode cX4_ofMany 33 = .ok (.ireturn, 1) := by decide +kernel
theorem dX4_ofMany_34 : decode cX4_ofMany 34 = .ok (.lload_n 2, 1) := by decide +kernel
theorem dX4_ofMany_35 : decode cX4_ofMany 35 = .ok (.bipush 8, 2) := by decide +kernel
theorem dX4_ofMany_37 : decode cX4_ofMany 37 = .ok (.lushr, 1) := by decide +kernel
theorem dX4_ofMany_38 : decode cX4_ofMany 38 = .ok (.lconst 0, 1) := by decide +kernel
theorem dX4_ofMany_39 : decode cX4_ofMany 39 = .ok (.lcmp, 1) := by decide +kernel
theorem dX4_ofMany_40 : decode cX4_ofMany 40 = .ok (.ifCond .ne 23, 3) := by decide +kernel
theorem dX4_ofMany_43 : decode cX4_ofMany 43 = .ok (.lload_n 0, 1) := by decide +kernel
theorem dX4_ofMany_44 : decode cX4_ofMany 44 = .ok (.bipush 48, 2) := by decide +kernel
theorem dX4_ofMany_46 : decode cX4_ofMany 46 = .ok (.lushr, 1) := by decide +kernel
theorem dX4_ofMany_47 : decode cX4_ofMany 47 = .ok (.ldc2_w 19, 3) := by decide +kernel
theorem dX4_ofMany_50 : decode cX4_ofMany 50 = .ok (.land, 1) := by decide +kernel
theorem dX4_ofMany_51 : decode cX4_ofMany 51 = .ok (.ldc2_w 43, 3) := by decide +kernel
theorem dX4_ofMany_54 : decode cX4_ofMany 54 = .ok (.lcmp, 1) := by decide +kernel
theorem dX4_ofMany_55 : decode cX4_ofMany 55 = .ok (.ifCond .ne 8, 3) := by decide +kernel
theorem dX4_ofMany_58 : decode cX4_ofMany 58 = .ok (.bipush 11, 2) := by decide +kernel
theorem dX4_ofMany_60 : decode cX4_ofMany 60 = .ok (.goto 5, 3) := by decide +kernel
theorem dX4_ofMany_63 : decode cX4_ofMany 63 = .ok (.bipush 10, 2) := by decide +kernel
theorem dX4_ofMany_65 : decode cX4_ofMany 65 = .ok (.ireturn, 1) := by decide +kernel
theorem dX5_firstFour_0 : decode cX5_firstFour 0 = .ok (.ldc2_w 9, 3) := by decide +kernel
theorem dX5_firstFour_3 : decode cX5_firstFour 3 = .ok (.iload_n 0, 1) := by decide +kernel
theorem dX5_firstFour_4 : decode cX5_firstFour 4 = .ok (.i2l, 1) := by decide +kernel
theorem dX5_firstFour_5 : decode cX5_firstFour 5 = .ok (.bipush 20, 2) := by decide +kernel
theorem dX5_firstFour_7 : decode cX5_firstFour 7 = .ok (.lshl, 1) := by decide +kernel
theorem dX5_firstFour_8 : decode cX5_firstFour 8 = .ok (.lor, 1) := by decide +kernel
theorem dX5_firstFour_9 : decode cX5_firstFour 9 = .ok (.iload_n 1, 1) := by decide +kernel
theorem dX5_firstFour_10 : decode cX5_firstFour 10 = .ok (.i2l, 1) := by decide +kernel
theorem dX5_firstFour_11 : decode cX5_firstFour 11 = .ok (.lor, 1) := by decide +kernel
theorem dX5_firstFour_12 : decode cX5_firstFour 12 = .ok (.lreturn, 1) := by decide +kernel
theorem dX5_isPacket_0 : decode cX5_isPacket 0 = .ok (.aload_n 0, 1) := by decide +kernel
theorem dX5_isPacket_1 : decode cX5_isPacket 1 = .ok (.invokevirtual 11, 3) := by decide +kernel
theorem dX5_isPacket_4 : decode cX5_isPacket 4 = .ok (.bipush 40, 2) := by decide +kernel
theorem dX5_isPacket_6 : decode cX5_isPacket 6 = .ok (.isub, 1) := by decide +kernel
theorem dX5_isPacket_7 : decode cX5_isPacket 7 = .ok (.istore_n 1, 1) := by decide +kernel
theorem dX5_isPacket_8 : decode cX5_isPacket 8 = .ok (.iload_n 1, 1) := by decide +kernel
theorem dX5_isPacket_9 : decode cX5_isPacket 9 = .ok (.ifCond .lt 38, 3) := by decide +kernel
theorem dX5_isPacket_12 : decode cX5_isPacket 12 = .ok (.iload_n 1, 1) := by decide +kernel
theorem dX5_isPacket_13 : decode cX5_isPacket 13 = .ok (.sipush 560, 3) := by decide +kernel
theorem dX5_isPacket_16 : decode cX5_isPacket 16 = .ok (.if_icmp .gt 31, 3) := by decide +kernel
theorem dX5_isPacket_19 : decode cX5_isPacket 19 = .ok (.aload_n 0, 1) := by decide +kernel
theorem dX5_isPacket_20 : decode cX5_isPacket 20 = .ok (.iconst 0, 1) := by decide +kernel
theorem dX5_isPacket_21 : decode cX5_isPacket 21 = .ok (.invokevirtual 17, 3) := by decide +kernel
theorem dX5_isPacket_24 : decode cX5_isPacket 24 = .ok (.iconst 4, 1) := by decide +kernel
theorem dX5_isPacket_25 : decode cX5_isPacket 25 = .ok (.ishr, 1) := by decide +kernel
theorem dX5_isPacket_26 : decode cX5_isPacket 26 = .ok (.bipush 6, 2) := by decide +kernel
theorem dX5_isPacket_28 : decode cX5_isPacket 28 = .ok (.if_icmp .ne 19, 3) := by decide +kernel
theorem dX5_isPacket_31 : decode cX5_isPacket 31 = .ok (.aload_n 0, 1) := by decide +kernel
theorem dX5_isPacket_32 : decode cX5_isPacket 32 = .ok (.iconst 4, 1) := by decide +kernel
theorem dX5_isPacket_33 : decode cX5_isPacket 33 = .ok (.iconst 2, 1) := by decide +kernel
theorem dX5_isPacket_34 : decode cX5_isPacket 34 = .ok (.invokevirtual 23, 3) := by decide +kernel
theorem dX5_isPacket_37 : decode cX5_isPacket 37 = .ok (.iload_n 1, 1) := by decide +kernel
theorem dX5_isPacket_38 : decode cX5_isPacket 38 = .ok (.i2l, 1) := by decide +kernel
theorem dX5_isPacket_39 : decode cX5_isPacket 39 = .ok (.lcmp, 1) := by decide +kernel
theorem dX5_isPacket_40 : decode cX5_isPacket 40 = .ok (.ifCond .ne 7, 3) := by decide +kernel
theorem dX5_isPacket_43 : decode cX5_isPacket 43 = .ok (.iconst 1, 1) := by decide +kernel
theorem dX5_isPacket_44 : decode cX5_isPacket 44 = .ok (.goto 4, 3) := by decide +kernel
theorem dX5_isPacket_47 : decode cX5_isPacket 47 = .ok (.iconst 0, 1) := by decide +kernel
theorem dX5_isPacket_48 : decode cX5_isPacket 48 = .ok (.ireturn, 1) := by decide +kernel
theorem dX5_hasPorts_0 : decode cX5_hasPorts 0 = .ok (.aload_n 0, 1) := by decide +kernel
theorem dX5_hasPorts_1 : decode cX5_hasPorts 1 = .ok (.invokevirtual 11, 3) := by decide +kernel
theorem dX5_hasPorts_4 : decode cX5_hasPorts 4 = .ok (.bipush 40, 2) := by decide +kernel
theorem dX5_hasPorts_6 : decode cX5_hasPorts 6 = .ok (.isub, 1) := by decide +kernel
theorem dX5_hasPorts_7 : decode cX5_hasPorts 7 = .ok (.istore_n 1, 1) := by decide +kernel
theorem dX5_hasPorts_8 : decode cX5_hasPorts 8 = .ok (.aload_n 0, 1) := by decide +kernel
theorem dX5_hasPorts_9 : decode cX5_hasPorts 9 = .ok (.bipush 6, 2) := by decide +kernel
theorem dX5_hasPorts_11 : decode cX5_hasPorts 11 = .ok (.invokevirtual 17, 3) := by decide +kernel
theorem dX5_hasPorts_14 : decode cX5_hasPorts 14 = .ok (.bipush 17, 2) := by decide +kernel
theorem dX5_hasPorts_16 : decode cX5_hasPorts 16 = .ok (.if_icmp .ne 26, 3) := by decide +kernel
theorem dX5_hasPorts_19 : decode cX5_hasPorts 19 = .ok (.iload_n 1, 1) := by decide +kernel
theorem dX5_hasPorts_20 : decode cX5_hasPorts 20 = .ok (.bipush 8, 2) := by decide +kernel
theorem dX5_hasPorts_22 : decode cX5_hasPorts 22 = .ok (.if_icmp .lt 20, 3) := by decide +kernel
theorem dX5_hasPorts_25 : decode cX5_hasPorts 25 = .ok (.aload_n 0, 1) := by decide +kernel
theorem dX5_hasPorts_26 : decode cX5_hasPorts 26 = .ok (.bipush 44, 2) := by decide +kernel
theorem dX5_hasPorts_28 : decode cX5_hasPorts 28 = .ok (.iconst 2, 1) := by decide +kernel
theorem dX5_hasPorts_29 : decode cX5_hasPorts 29 = .ok (.invokevirtual 23, 3) := by decide +kernel
theorem dX5_hasPorts_32 : decode cX5_hasPorts 32 = .ok (.iload_n 1, 1) := by decide +kernel
theorem dX5_hasPorts_33 : decode cX5_hasPorts 33 = .ok (.i2l, 1) := by decide +kernel
theorem dX5_hasPorts_34 : decode cX5_hasPorts 34 = .ok (.lcmp, 1) := by decide +kernel
theorem dX5_hasPorts_35 : decode cX5_hasPorts 35 = .ok (.ifCond .ne 7, 3) := by decide +kernel
theorem dX5_hasPorts_38 : decode cX5_hasPorts 38 = .ok (.iconst 1, 1) := by decide +kernel
theorem dX5_hasPorts_39 : decode cX5_hasPorts 39 = .ok (.goto 4, 3) := by decide +kernel
theorem dX5_hasPorts_42 : decode cX5_hasPorts 42 = .ok (.iconst 0, 1) := by decide +kernel
theorem dX5_hasPorts_43 : decode cX5_hasPorts 43 = .ok (.ireturn, 1) := by decide +kernel
theorem dX5_t_0 : decode cX5_t 0 = .ok (.aload_n 0, 1) := by decide +kernel
theorem dX5_t_1 : decode cX5_t 1 = .ok (.iconst 0, 1) := by decide +kernel
theorem dX5_t_2 : decode cX5_t 2 = .ok (.iconst 4, 1) := by decide +kernel
theorem dX5_t_3 : decode cX5_t 3 = .ok (.invokevirtual 23, 3) := by decide +kernel
theorem dX5_t_6 : decode cX5_t 6 = .ok (.bipush 20, 2) := by decide +kernel
theorem dX5_t_8 : decode cX5_t 8 = .ok (.lushr, 1) := by decide +kernel
theorem dX5_t_9 : decode cX5_t 9 = .ok (.ldc2_w 27, 3) := by decide +kernel
theorem dX5_t_12 : decode cX5_t 12 = .ok (.land, 1) := by decide +kernel
theorem dX5_t_13 : decode cX5_t 13 = .ok (.l2i, 1) := by decide +kernel
theorem dX5_t_14 : decode cX5_t 14 = .ok (.ireturn, 1) := by decide +kernel
theorem dX5_l_0 : decode cX5_l 0 = .ok (.aload_n 0, 1) := by decide +kernel
theorem dX5_l_1 : decode cX5_l 1 = .ok (.iconst 0, 1) := by decide +kernel
theorem dX5_l_2 : decode cX5_l 2 = .ok (.iconst 4, 1) := by decide +kernel
theorem dX5_l_3 : decode cX5_l 3 = .ok (.invokevirtual 23, 3) := by decide +kernel
theorem dX5_l_6 : decode cX5_l 6 = .ok (.ldc2_w 29, 3) := by decide +kernel
theorem dX5_l_9 : decode cX5_l 9 = .ok (.land, 1) := by decide +kernel
theorem dX5_l_10 : decode cX5_l 10 = .ok (.l2i, 1) := by decide +kernel
theorem dX5_l_11 : decode cX5_l 11 = .ok (.ireturn, 1) := by decide +kernel
theorem dX5_headOf_0 : decode cX5_headOf 0 = .ok (.aload_n 0, 1) := by decide +kernel
theorem dX5_headOf_1 : decode cX5_headOf 1 = .ok (.invokestatic 31, 3) := by decide +kernel
theorem dX5_headOf_4 : decode cX5_headOf 4 = .ok (.ifCond .eq 8, 3) := by decide +kernel
theorem dX5_headOf_7 : decode cX5_headOf 7 = .ok (.bipush 48, 2) := by decide +kernel
theorem dX5_headOf_9 : decode cX5_headOf 9 = .ok (.goto 5, 3) := by decide +kernel
theorem dX5_headOf_12 : decode cX5_headOf 12 = .ok (.bipush 40, 2) := by decide +kernel
theorem dX5_headOf_14 : decode cX5_headOf 14 = .ok (.ireturn, 1) := by decide +kernel
theorem dX6_init_0 : decode cX6_init 0 = .ok (.aload_n 0, 1) := by decide +kernel
theorem dX6_init_1 : decode cX6_init 1 = .ok (.invokespecial 3, 3) := by decide +kernel
theorem dX6_init_4 : decode cX6_init 4 = .ok (.aload_n 0, 1) := by decide +kernel
theorem dX6_init_5 : decode cX6_init 5 = .ok (.iconst 3, 1) := by decide +kernel
theorem dX6_init_6 : decode cX6_init 6 = .ok (.anewarray 11, 3) := by decide +kernel
theorem dX6_init_9 : decode cX6_init 9 = .ok (.putfield 13, 3) := by decide +kernel
theorem dX6_init_12 : decode cX6_init 12 = .ok (.aload_n 0, 1) := by decide +kernel
theorem dX6_init_13 : decode cX6_init 13 = .ok (.aload_n 1, 1) := by decide +kernel
theorem dX6_init_14 : decode cX6_init 14 = .ok (.putfield 17, 3) := by decide +kernel
theorem dX6_init_17 : decode cX6_init 17 = .ok (.iconst 0, 1) := by decide +kernel
theorem dX6_init_18 : decode cX6_init 18 = .ok (.istore_n 2, 1) := by decide +kernel
theorem dX6_init_19 : decode cX6_init 19 = .ok (.iload_n 2, 1) := by decide +kernel
theorem dX6_init_20 : decode cX6_init 20 = .ok (.iconst 3, 1) := by decide +kernel
theorem dX6_init_21 : decode cX6_init 21 = .ok (.if_icmp .ge 22, 3) := by decide +kernel
theorem dX6_init_24 : decode cX6_init 24 = .ok (.aload_n 0, 1) := by decide +kernel
theorem dX6_init_25 : decode cX6_init 25 = .ok (.getfield 13, 3) := by decide +kernel
theorem dX6_init_28 : decode cX6_init 28 = .ok (.iload_n 2, 1) := by decide +kernel
theorem dX6_init_29 : decode cX6_init 29 = .ok (.new 11, 3) := by decide +kernel
theorem dX6_init_32 : decode cX6_init 32 = .ok (.dup, 1) := by decide +kernel
theorem dX6_init_33 : decode cX6_init 33 = .ok (.invokespecial 21, 3) := by decide +kernel
theorem dX6_init_36 : decode cX6_init 36 = .ok (.aastore, 1) := by decide +kernel
theorem dX6_init_37 : decode cX6_init 37 = .ok (.iinc 2 1, 3) := by decide +kernel
theorem dX6_init_40 : decode cX6_init 40 = .ok (.goto (-21), 3) := by decide +kernel
theorem dX6_init_43 : decode cX6_init 43 = .ok (.return_, 1) := by decide +kernel
theorem dX6_goOn_0 : decode cX6_goOn 0 = .ok (.aload_n 0, 1) := by decide +kernel
theorem dX6_goOn_1 : decode cX6_goOn 1 = .ok (.dup, 1) := by decide +kernel
theorem dX6_goOn_2 : decode cX6_goOn 2 = .ok (.getfield 22, 3) := by decide +kernel
theorem dX6_goOn_5 : decode cX6_goOn 5 = .ok (.iload_n 1, 1) := by decide +kernel
theorem dX6_goOn_6 : decode cX6_goOn 6 = .ok (.iadd, 1) := by decide +kernel
theorem dX6_goOn_7 : decode cX6_goOn 7 = .ok (.putfield 22, 3) := by decide +kernel
theorem dX6_goOn_10 : decode cX6_goOn 10 = .ok (.aload_n 0, 1) := by decide +kernel
theorem dX6_goOn_11 : decode cX6_goOn 11 = .ok (.getfield 22, 3) := by decide +kernel
theorem dX6_goOn_14 : decode cX6_goOn 14 = .ok (.ireturn, 1) := by decide +kernel
theorem dX6_heaps_0 : decode cX6_heaps 0 = .ok (.iconst 0, 1) := by decide +kernel
theorem dX6_heaps_1 : decode cX6_heaps 1 = .ok (.istore_n 1, 1) := by decide +kernel
theorem dX6_heaps_2 : decode cX6_heaps 2 = .ok (.iconst 0, 1) := by decide +kernel
theorem dX6_heaps_3 : decode cX6_heaps 3 = .ok (.istore_n 2, 1) := by decide +kernel
theorem dX6_heaps_4 : decode cX6_heaps 4 = .ok (.iload_n 2, 1) := by decide +kernel
theorem dX6_heaps_5 : decode cX6_heaps 5 = .ok (.iconst 3, 1) := by decide +kernel
theorem dX6_heaps_6 : decode cX6_heaps 6 = .ok (.if_icmp .ge 29, 3) := by decide +kernel
theorem dX6_heaps_9 : decode cX6_heaps 9 = .ok (.iload_n 1, 1) := by decide +kernel
theorem dX6_heaps_10 : decode cX6_heaps 10 = .ok (.aload_n 0, 1) := by decide +kernel
theorem dX6_heaps_11 : decode cX6_heaps 11 = .ok (.getfield 13, 3) := by decide +kernel
theorem dX6_heaps_14 : decode cX6_heaps 14 = .ok (.iload_n 2, 1) := by decide +kernel
theorem dX6_heaps_15 : decode cX6_heaps 15 = .ok (.aaload, 1) := by decide +kernel
theorem dX6_heaps_16 : decode cX6_heaps 16 = .ok (.invokevirtual 26, 3) := by decide +kernel
theorem dX6_heaps_19 : decode cX6_heaps 19 = .ok (.ifCond .eq 7, 3) := by decide +kernel
theorem dX6_heaps_22 : decode cX6_heaps 22 = .ok (.iconst 1, 1) := by decide +kernel
theorem dX6_heaps_23 : decode cX6_heaps 23 = .ok (.goto 4, 3) := by decide +kernel
theorem dX6_heaps_26 : decode cX6_heaps 26 = .ok (.iconst 0, 1) := by decide +kernel
theorem dX6_heaps_27 : decode cX6_heaps 27 = .ok (.iadd, 1) := by decide +kernel
theorem dX6_heaps_28 : decode cX6_heaps 28 = .ok (.istore_n 1, 1) := by decide +kernel
theorem dX6_heaps_29 : decode cX6_heaps 29 = .ok (.iinc 2 1, 3) := by decide +kernel
theorem dX6_heaps_32 : decode cX6_heaps 32 = .ok (.goto (-28), 3) := by decide +kernel
theorem dX6_heaps_35 : decode cX6_heaps 35 = .ok (.iload_n 1, 1) := by decide +kernel
theorem dX6_heaps_36 : decode cX6_heaps 36 = .ok (.ireturn, 1) := by decide +kernel
theorem dX6_parts_0 : decode cX6_parts 0 = .ok (.iconst 0, 1) := by decide +kernel
theorem dX6_parts_1 : decode cX6_parts 1 = .ok (.istore_n 1, 1) := by decide +kernel
theorem dX6_parts_2 : decode cX6_parts 2 = .ok (.iconst 0, 1) := by decide +kernel
theorem dX6_parts_3 : decode cX6_parts 3 = .ok (.istore_n 2, 1) := by decide +kernel
theorem dX6_parts_4 : decode cX6_parts 4 = .ok (.iload_n 2, 1) := by decide +kernel
theorem dX6_parts_5 : decode cX6_parts 5 = .ok (.iconst 3, 1) := by decide +kernel
theorem dX6_parts_6 : decode cX6_parts 6 = .ok (.if_icmp .ge 21, 3) := by decide +kernel
theorem dX6_parts_9 : decode cX6_parts 9 = .ok (.iload_n 1, 1) := by decide +kernel
theorem dX6_parts_10 : decode cX6_parts 10 = .ok (.aload_n 0, 1) := by decide +kernel
theorem dX6_parts_11 : decode cX6_parts 11 = .ok (.getfield 13, 3) := by decide +kernel
theorem dX6_parts_14 : decode cX6_parts 14 = .ok (.iload_n 2, 1) := by decide +kernel
theorem dX6_parts_15 : decode cX6_parts 15 = .ok (.aaload, 1) := by decide +kernel
theorem dX6_parts_16 : decode cX6_parts 16 = .ok (.invokevirtual 30, 3) := by decide +kernel
theorem dX6_parts_19 : decode cX6_parts 19 = .ok (.iadd, 1) := by decide +kernel
theorem dX6_parts_20 : decode cX6_parts 20 = .ok (.istore_n 1, 1) := by decide +kernel
theorem dX6_parts_21 : decode cX6_parts 21 = .ok (.iinc 2 1, 3) := by decide +kernel
theorem dX6_parts_24 : decode cX6_parts 24 = .ok (.goto (-20), 3) := by decide +kernel
theorem dX6_parts_27 : decode cX6_parts 27 = .ok (.iload_n 1, 1) := by decide +kernel
theorem dX6_parts_28 : decode cX6_parts 28 = .ok (.ireturn, 1) := by decide +kernel
theorem dX6_bytes_0 : decode cX6_bytes 0 = .ok (.iconst 0, 1) := by decide +kernel
theorem dX6_bytes_1 : decode cX6_bytes 1 = .ok (.istore_n 1, 1) := by decide +kernel
theorem dX6_bytes_2 : decode cX6_bytes 2 = .ok (.iconst 0, 1) := by decide +kernel
theorem dX6_bytes_3 : decode cX6_bytes 3 = .ok (.istore_n 2, 1) := by decide +kernel
theorem dX6_bytes_4 : decode cX6_bytes 4 = .ok (.iload_n 2, 1) := by decide +kernel
theorem dX6_bytes_5 : decode cX6_bytes 5 = .ok (.iconst 3, 1) := by decide +kernel
theorem dX6_bytes_6 : decode cX6_bytes 6 = .ok (.if_icmp .ge 21, 3) := by decide +kernel
theorem dX6_bytes_9 : decode cX6_bytes 9 = .ok (.iload_n 1, 1) := by decide +kernel
theorem dX6_bytes_10 : decode cX6_bytes 10 = .ok (.aload_n 0, 1) := by decide +kernel
theorem dX6_bytes_11 : decode cX6_bytes 11 = .ok (.getfield 13, 3) := by decide +kernel
theorem dX6_bytes_14 : decode cX6_bytes 14 = .ok (.iload_n 2, 1) := by decide +kernel
theorem dX6_bytes_15 : decode cX6_bytes 15 = .ok (.aaload, 1) := by decide +kernel
theorem dX6_bytes_16 : decode cX6_bytes 16 = .ok (.invokevirtual 34, 3) := by decide +kernel
theorem dX6_bytes_19 : decode cX6_bytes 19 = .ok (.iadd, 1) := by decide +kernel
theorem dX6_bytes_20 : decode cX6_bytes 20 = .ok (.istore_n 1, 1) := by decide +kernel
theorem dX6_bytes_21 : decode cX6_bytes 21 = .ok (.iinc 2 1, 3) := by decide +kernel
theorem dX6_bytes_24 : decode cX6_bytes 24 = .ok (.goto (-20), 3) := by decide +kernel
theorem dX6_bytes_27 : decode cX6_bytes 27 = .ok (.iload_n 1, 1) := by decide +kernel
theorem dX6_bytes_28 : decode cX6_bytes 28 = .ok (.ireturn, 1) := by decide +kernel
theorem dX6_listen_0 : decode cX6_listen 0 = .ok (.iconst 0, 1) := by decide +kernel
theorem dX6_listen_1 : decode cX6_listen 1 = .ok (.istore_n 3, 1) := by decide +kernel
theorem dX6_listen_2 : decode cX6_listen 2 = .ok (.aload_n 1, 1) := by decide +kernel
theorem dX6_listen_3 : decode cX6_listen 3 = .ok (.iconst 0, 1) := by decide +kernel
theorem dX6_listen_4 : decode cX6_listen 4 = .ok (.invokevirtual 37, 3) := by decide +kernel
theorem dX6_listen_7 : decode cX6_listen 7 = .ok (.istore 4, 2) := by decide +kernel
theorem dX6_listen_9 : decode cX6_listen 9 = .ok (.iload 4, 2) := by decide +kernel
theorem dX6_listen_11 : decode cX6_listen 11 = .ok (.iconst 5, 1) := by decide +kernel
theorem dX6_listen_12 : decode cX6_listen 12 = .ok (.ishr, 1) := by decide +kernel
theorem dX6_listen_13 : decode cX6_listen 13 = .ok (.iconst 3, 1) := by decide +kernel
theorem dX6_listen_14 : decode cX6_listen 14 = .ok (.if_icmp .ne 13, 3) := by decide +kernel
theorem dX6_listen_17 : decode cX6_listen 17 = .ok (.aload_n 0, 1) := by decide +kernel
theorem dX6_listen_18 : decode cX6_listen 18 = .ok (.aload_n 1, 1) := by decide +kernel
theorem dX6_listen_19 : decode cX6_listen 19 = .ok (.aload_n 2, 1) := by decide +kernel
theorem dX6_listen_20 : decode cX6_listen 20 = .ok (.invokevirtual 43, 3) := by decide +kernel
theorem dX6_listen_23 : decode cX6_listen 23 = .ok (.istore_n 3, 1) := by decide +kernel
theorem dX6_listen_24 : decode cX6_listen 24 = .ok (.goto 65, 3) := by decide +kernel
theorem dX6_listen_27 : decode cX6_listen 27 = .ok (.iload 4, 2) := by decide +kernel
theorem dX6_listen_29 : decode cX6_listen 29 = .ok (.iconst 3, 1) := by decide +kernel
theorem dX6_listen_30 : decode cX6_listen 30 = .ok (.ishr, 1) := by decide +kernel
theorem dX6_listen_31 : decode cX6_listen 31 = .ok (.bipush 24, 2) := by decide +kernel
theorem dX6_listen_33 : decode cX6_listen 33 = .ok (.if_icmp .ne 21, 3) := by decide +kernel
theorem dX6_listen_36 : decode cX6_listen 36 = .ok (.aload_n 1, 1) := by decide +kernel
theorem dX6_listen_37 : decode cX6_listen 37 = .ok (.invokevirtual 47, 3) := by decide +kernel
theorem dX6_listen_40 : decode cX6_listen 40 = .ok (.iconst 5, 1) := by decide +kernel
theorem dX6_listen_41 : decode cX6_listen 41 = .ok (.if_icmp .lt 13, 3) := by decide +kernel
theorem dX6_listen_44 : decode cX6_listen 44 = .ok (.aload_n 0, 1) := by decide +kernel
theorem dX6_listen_45 : decode cX6_listen 45 = .ok (.aload_n 1, 1) := by decide +kernel
theorem dX6_listen_46 : decode cX6_listen 46 = .ok (.aload_n 2, 1) := by decide +kernel
theorem dX6_listen_47 : decode cX6_listen 47 = .ok (.invokevirtual 50, 3) := by decide +kernel
theorem dX6_listen_50 : decode cX6_listen 50 = .ok (.istore_n 3, 1) := by decide +kernel
theorem dX6_listen_51 : decode cX6_listen 51 = .ok (.goto 38, 3) := by decide +kernel
theorem dX6_listen_54 : decode cX6_listen 54 = .ok (.iload 4, 2) := by decide +kernel
theorem dX6_listen_56 : decode cX6_listen 56 = .ok (.iconst 3, 1) := by decide +kernel
theorem dX6_listen_57 : decode cX6_listen 57 = .ok (.ishr, 1) := by decide +kernel
theorem dX6_listen_58 : decode cX6_listen 58 = .ok (.bipush 28, 2) := by decide +kernel
theorem dX6_listen_60 : decode cX6_listen 60 = .ok (.if_icmp .ne 29, 3) := by decide +kernel
theorem dX6_listen_63 : decode cX6_listen 63 = .ok (.aload_n 1, 1) := by decide +kernel
theorem dX6_listen_64 : decode cX6_listen 64 = .ok (.invokevirtual 47, 3) := by decide +kernel
theorem dX6_listen_67 : decode cX6_listen 67 = .ok (.bipush 6, 2) := by decide +kernel
theorem dX6_listen_69 : decode cX6_listen 69 = .ok (.if_icmp .lt 20, 3) := by decide +kernel
theorem dX6_listen_72 : decode cX6_listen 72 = .ok (.aload_n 0, 1) := by decide +kernel
theorem dX6_listen_73 : decode cX6_listen 73 = .ok (.aload_n 1, 1) := by decide +kernel
theorem dX6_listen_74 : decode cX6_listen 74 = .ok (.bipush 8, 2) := by decide +kernel
theorem dX6_listen_76 : decode cX6_listen 76 = .ok (.aload_n 1, 1) := by decide +kernel
theorem dX6_listen_77 : decode cX6_listen 77 = .ok (.iconst 4, 1) := by decide +kernel
theorem dX6_listen_78 : decode cX6_listen 78 = .ok (.invokevirtual 37, 3) := by decide +kernel
theorem dX6_listen_81 : decode cX6_listen 81 = .ok (.imul, 1) := by decide +kernel
theorem dX6_listen_82 : decode cX6_listen 82 = .ok (.aload_n 1, 1) := by decide +kernel
theorem dX6_listen_83 : decode cX6_listen 83 = .ok (.iconst 5, 1) := by decide +kernel
theorem dX6_listen_84 : decode cX6_listen 84 = .ok (.aload_n 2, 1) := by decide +kernel
theorem dX6_listen_85 : decode cX6_listen 85 = .ok (.invokevirtual 53, 3) := by decide +kernel
theorem dX6_listen_88 : decode cX6_listen 88 = .ok (.istore_n 3, 1) := by decide +kernel
theorem dX6_listen_89 : decode cX6_listen 89 = .ok (.iload_n 3, 1) := by decide +kernel
theorem dX6_listen_90 : decode cX6_listen 90 = .ok (.iconst 2, 1) := by decide +kernel
theorem dX6_listen_91 : decode cX6_listen 91 = .ok (.if_icmp .ne 16, 3) := by decide +kernel
theorem dX6_listen_94 : decode cX6_listen 94 = .ok (.aload_n 0, 1) := by decide +kernel
theorem dX6_listen_95 : decode cX6_listen 95 = .ok (.dup, 1) := by decide +kernel
theorem dX6_listen_96 : decode cX6_listen 96 = .ok (.getfield 57, 3) := by decide +kernel
theorem dX6_listen_99 : decode cX6_listen 99 = .ok (.iconst 1, 1) := by decide +kernel
theorem dX6_listen_100 : decode cX6_listen 100 = .ok (.iadd, 1) := by decide +kernel
theorem dX6_listen_101 : decode cX6_listen 101 = .ok (.putfield 57, 3) := by decide +kernel
theorem dX6_listen_104 : decode cX6_listen 104 = .ok (.goto 17, 3) := by decide +kernel
theorem dX6_listen_107 : decode cX6_listen 107 = .ok (.iload_n 3, 1) := by decide +kernel
theorem dX6_listen_108 : decode cX6_listen 108 = .ok (.ifCond .ne 13, 3) := by decide +kernel
theorem dX6_listen_111 : decode cX6_listen 111 = .ok (.aload_n 0, 1) := by decide +kernel
theorem dX6_listen_112 : decode cX6_listen 112 = .ok (.dup, 1) := by decide +kernel
theorem dX6_listen_113 : decode cX6_listen 113 = .ok (.getfield 60, 3) := by decide +kernel
theorem dX6_listen_116 : decode cX6_listen 116 = .ok (.iconst 1, 1) := by decide +kernel
theorem dX6_listen_117 : decode cX6_listen 117 = .ok (.iadd, 1) := by decide +kernel
theorem dX6_listen_118 : decode cX6_listen 118 = .ok (.putfield 60, 3) := by decide +kernel
theorem dX6_listen_121 : decode cX6_listen 121 = .ok (.iload_n 3, 1) := by decide +kernel
theorem dX6_listen_122 : decode cX6_listen 122 = .ok (.ireturn, 1) := by decide +kernel
theorem dX6_hearsAll_0 : decode cX6_hearsAll 0 = .ok (.aload_n 0, 1) := by decide +kernel
theorem dX6_hearsAll_1 : decode cX6_hearsAll 1 = .ok (.getfield 17, 3) := by decide +kernel
theorem dX6_hearsAll_4 : decode cX6_hearsAll 4 = .ok (.aload_n 1, 1) := by decide +kernel
theorem dX6_hearsAll_5 : decode cX6_hearsAll 5 = .ok (.iconst 0, 1) := by decide +kernel
theorem dX6_hearsAll_6 : decode cX6_hearsAll 6 = .ok (.iconst (-1), 1) := by decide +kernel
theorem dX6_hearsAll_7 : decode cX6_hearsAll 7 = .ok (.invokevirtual 65, 3) := by decide +kernel
theorem dX6_hearsAll_10 : decode cX6_hearsAll 10 = .ok (.ifCond .ne 5, 3) := by decide +kernel
theorem dX6_hearsAll_13 : decode cX6_hearsAll 13 = .ok (.iconst 0, 1) := by decide +kernel
theorem dX6_hearsAll_14 : decode cX6_hearsAll 14 = .ok (.ireturn, 1) := by decide +kernel
theorem dX6_hearsAll_15 : decode cX6_hearsAll 15 = .ok (.aload_n 2, 1) := by decide +kernel
theorem dX6_hearsAll_16 : decode cX6_hearsAll 16 = .ok (.aload_n 0, 1) := by decide +kernel
theorem dX6_hearsAll_17 : decode cX6_hearsAll 17 = .ok (.getfield 17, 3) := by decide +kernel
theorem dX6_hearsAll_20 : decode cX6_hearsAll 20 = .ok (.invokevirtual 69, 3) := by decide +kernel
theorem dX6_hearsAll_23 : decode cX6_hearsAll 23 = .ok (.invokevirtual 73, 3) := by decide +kernel
theorem dX6_hearsAll_26 : decode cX6_hearsAll 26 = .ok (.iconst 2, 1) := by decide +kernel
theorem dX6_hearsAll_27 : decode cX6_hearsAll 27 = .ok (.ireturn, 1) := by decide +kernel
theorem dX6_hearsFirst_0 : decode cX6_hearsFirst 0 = .ok (.aload_n 1, 1) := by decide +kernel
theorem dX6_hearsFirst_1 : decode cX6_hearsFirst 1 = .ok (.invokestatic 77, 3) := by decide +kernel
theorem dX6_hearsFirst_4 : decode cX6_hearsFirst 4 = .ok (.istore_n 3, 1) := by decide +kernel
theorem dX6_hearsFirst_5 : decode cX6_hearsFirst 5 = .ok (.iload_n 3, 1) := by decide +kernel
theorem dX6_hearsFirst_6 : decode cX6_hearsFirst 6 = .ok (.bipush 40, 2) := by decide +kernel
theorem dX6_hearsFirst_8 : decode cX6_hearsFirst 8 = .ok (.if_icmp .lt 19, 3) := by decide +kernel
theorem dX6_hearsFirst_11 : decode cX6_hearsFirst 11 = .ok (.aload_n 0, 1) := by decide +kernel
theorem dX6_hearsFirst_12 : decode cX6_hearsFirst 12 = .ok (.getfield 17, 3) := by decide +kernel
theorem dX6_hearsFirst_15 : decode cX6_hearsFirst 15 = .ok (.aload_n 1, 1) := by decide +kernel
theorem dX6_hearsFirst_16 : decode cX6_hearsFirst 16 = .ok (.iconst 4, 1) := by decide +kernel
theorem dX6_hearsFirst_17 : decode cX6_hearsFirst 17 = .ok (.iload_n 3, 1) := by decide +kernel
theorem dX6_hearsFirst_18 : decode cX6_hearsFirst 18 = .ok (.bipush 40, 2) := by decide +kernel
theorem dX6_hearsFirst_20 : decode cX6_hearsFirst 20 = .ok (.isub, 1) := by decide +kernel
theorem dX6_hearsFirst_21 : decode cX6_hearsFirst 21 = .ok (.invokevirtual 65, 3) := by decide +kernel
theorem dX6_hearsFirst_24 : decode cX6_hearsFirst 24 = .ok (.ifCond .ne 5, 3) := by decide +kernel
theorem dX6_hearsFirst_27 : decode cX6_hearsFirst 27 = .ok (.iconst 0, 1) := by decide +kernel
theorem dX6_hearsFirst_28 : decode cX6_hearsFirst 28 = .ok (.ireturn, 1) := by decide +kernel
theorem dX6_hearsFirst_29 : decode cX6_hearsFirst 29 = .ok (.aload_n 0, 1) := by decide +kernel
theorem dX6_hearsFirst_30 : decode cX6_hearsFirst 30 = .ok (.aload_n 1, 1) := by decide +kernel
theorem dX6_hearsFirst_31 : decode cX6_hearsFirst 31 = .ok (.iconst 0, 1) := by decide +kernel
theorem dX6_hearsFirst_32 : decode cX6_hearsFirst 32 = .ok (.aload_n 0, 1) := by decide +kernel
theorem dX6_hearsFirst_33 : decode cX6_hearsFirst 33 = .ok (.getfield 17, 3) := by decide +kernel
theorem dX6_hearsFirst_36 : decode cX6_hearsFirst 36 = .ok (.invokevirtual 69, 3) := by decide +kernel
theorem dX6_hearsFirst_39 : decode cX6_hearsFirst 39 = .ok (.iconst 0, 1) := by decide +kernel
theorem dX6_hearsFirst_40 : decode cX6_hearsFirst 40 = .ok (.aload_n 2, 1) := by decide +kernel
theorem dX6_hearsFirst_41 : decode cX6_hearsFirst 41 = .ok (.invokevirtual 53, 3) := by decide +kernel
theorem dX6_hearsFirst_44 : decode cX6_hearsFirst 44 = .ok (.ireturn, 1) := by decide +kernel
theorem dX6_hearsPart_0 : decode cX6_hearsPart 0 = .ok (.aload_n 1, 1) := by decide +kernel
theorem dX6_hearsPart_1 : decode cX6_hearsPart 1 = .ok (.invokestatic 77, 3) := by decide +kernel
theorem dX6_hearsPart_4 : decode cX6_hearsPart 4 = .ok (.istore 6, 2) := by decide +kernel
theorem dX6_hearsPart_6 : decode cX6_hearsPart 6 = .ok (.aload_n 1, 1) := by decide +kernel
theorem dX6_hearsPart_7 : decode cX6_hearsPart 7 = .ok (.iconst 2, 1) := by decide +kernel
theorem dX6_hearsPart_8 : decode cX6_hearsPart 8 = .ok (.iconst 2, 1) := by decide +kernel
theorem dX6_hearsPart_9 : decode cX6_hearsPart 9 = .ok (.invokevirtual 81, 3) := by decide +kernel
theorem dX6_hearsPart_12 : decode cX6_hearsPart 12 = .ok (.l2i, 1) := by decide +kernel
theorem dX6_hearsPart_13 : decode cX6_hearsPart 13 = .ok (.istore 7, 2) := by decide +kernel
theorem dX6_hearsPart_15 : decode cX6_hearsPart 15 = .ok (.aload_n 3, 1) := by decide +kernel
theorem dX6_hearsPart_16 : decode cX6_hearsPart 16 = .ok (.invokevirtual 47, 3) := by decide +kernel
theorem dX6_hearsPart_19 : decode cX6_hearsPart 19 = .ok (.iload 4, 2) := by decide +kernel
theorem dX6_hearsPart_21 : decode cX6_hearsPart 21 = .ok (.isub, 1) := by decide +kernel
theorem dX6_hearsPart_22 : decode cX6_hearsPart 22 = .ok (.istore 8, 2) := by decide +kernel
theorem dX6_hearsPart_24 : decode cX6_hearsPart 24 = .ok (.iload_n 2, 1) := by decide +kernel
theorem dX6_hearsPart_25 : decode cX6_hearsPart 25 = .ok (.iload 8, 2) := by decide +kernel
theorem dX6_hearsPart_27 : decode cX6_hearsPart 27 = .ok (.iadd, 1) := by decide +kernel
theorem dX6_hearsPart_28 : decode cX6_hearsPart 28 = .ok (.istore 9, 2) := by decide +kernel
theorem dX6_hearsPart_30 : decode cX6_hearsPart 30 = .ok (.iload 6, 2) := by decide +kernel
theorem dX6_hearsPart_32 : decode cX6_hearsPart 32 = .ok (.bipush 40, 2) := by decide +kernel
theorem dX6_hearsPart_34 : decode cX6_hearsPart 34 = .ok (.if_icmp .lt 33, 3) := by decide +kernel
theorem dX6_hearsPart_37 : decode cX6_hearsPart 37 = .ok (.iload 6, 2) := by decide +kernel
theorem dX6_hearsPart_39 : decode cX6_hearsPart 39 = .ok (.sipush 600, 3) := by decide +kernel
theorem dX6_hearsPart_42 : decode cX6_hearsPart 42 = .ok (.if_icmp .gt 25, 3) := by decide +kernel
theorem dX6_hearsPart_45 : decode cX6_hearsPart 45 = .ok (.iload 9, 2) := by decide +kernel
theorem dX6_hearsPart_47 : decode cX6_hearsPart 47 = .ok (.iload 6, 2) := by decide +kernel
theorem dX6_hearsPart_49 : decode cX6_hearsPart 49 = .ok (.if_icmp .gt 18, 3) := by decide +kernel
theorem dX6_hearsPart_52 : decode cX6_hearsPart 52 = .ok (.iload 9, 2) := by decide +kernel
theorem dX6_hearsPart_54 : decode cX6_hearsPart 54 = .ok (.bipush 8, 2) := by decide +kernel
theorem dX6_hearsPart_56 : decode cX6_hearsPart 56 = .ok (.irem, 1) := by decide +kernel
theorem dX6_hearsPart_57 : decode cX6_hearsPart 57 = .ok (.ifCond .eq 12, 3) := by decide +kernel
theorem dX6_hearsPart_60 : decode cX6_hearsPart 60 = .ok (.iload 9, 2) := by decide +kernel
theorem dX6_hearsPart_62 : decode cX6_hearsPart 62 = .ok (.iload 6, 2) := by decide +kernel
theorem dX6_hearsPart_64 : decode cX6_hearsPart 64 = .ok (.if_icmp .eq 5, 3) := by decide +kernel
theorem dX6_hearsPart_67 : decode cX6_hearsPart 67 = .ok (.iconst 0, 1) := by decide +kernel
theorem dX6_hearsPart_68 : decode cX6_hearsPart 68 = .ok (.ireturn, 1) := by decide +kernel
theorem dX6_hearsPart_69 : decode cX6_hearsPart 69 = .ok (.aload_n 0, 1) := by decide +kernel
theorem dX6_hearsPart_70 : decode cX6_hearsPart 70 = .ok (.invokevirtual 85, 3) := by decide +kernel
theorem dX6_hearsPart_73 : decode cX6_hearsPart 73 = .ok (.aload_n 0, 1) := by decide +kernel
theorem dX6_hearsPart_74 : decode cX6_hearsPart 74 = .ok (.getfield 13, 3) := by decide +kernel
theorem dX6_hearsPart_77 : decode cX6_hearsPart 77 = .ok (.aload_n 0, 1) := by decide +kernel
theorem dX6_hearsPart_78 : decode cX6_hearsPart 78 = .ok (.iload 6, 2) := by decide +kernel
theorem dX6_hearsPart_80 : decode cX6_hearsPart 80 = .ok (.iload 7, 2) := by decide +kernel
theorem dX6_hearsPart_82 : decode cX6_hearsPart 82 = .ok (.invokevirtual 88, 3) := by decide +kernel
theorem dX6_hearsPart_85 : decode cX6_hearsPart 85 = .ok (.aaload, 1) := by decide +kernel
theorem dX6_hearsPart_86 : decode cX6_hearsPart 86 = .ok (.astore 10, 2) := by decide +kernel
theorem dX6_hearsPart_88 : decode cX6_hearsPart 88 = .ok (.aload 10, 2) := by decide +kernel
theorem dX6_hearsPart_90 : decode cX6_hearsPart 90 = .ok (.iload 6, 2) := by decide +kernel
theorem dX6_hearsPart_92 : decode cX6_hearsPart 92 = .ok (.iload 7, 2) := by decide +kernel
theorem dX6_hearsPart_94 : decode cX6_hearsPart 94 = .ok (.invokevirtual 92, 3) := by decide +kernel
theorem dX6_hearsPart_97 : decode cX6_hearsPart 97 = .ok (.ifCond .ne 29, 3) := by decide +kernel
theorem dX6_hearsPart_100 : decode cX6_hearsPart 100 = .ok (.aload 10, 2) := by decide +kernel
theorem dX6_hearsPart_102 : decode cX6_hearsPart 102 = .ok (.invokevirtual 26, 3) := by decide +kernel
theorem dX6_hearsPart_105 : decode cX6_hearsPart 105 = .ok (.ifCond .eq 5, 3) := by decide +kernel
theorem dX6_hearsPart_108 : decode cX6_hearsPart 108 = .ok (.iconst 0, 1) := by decide +kernel
theorem dX6_hearsPart_109 : decode cX6_hearsPart 109 = .ok (.ireturn, 1) := by decide +kernel
theorem dX6_hearsPart_110 : decode cX6_hearsPart 110 = .ok (.aload 10, 2) := by decide +kernel
theorem dX6_hearsPart_112 : decode cX6_hearsPart 112 = .ok (.iload 6, 2) := by decide +kernel
theorem dX6_hearsPart_114 : decode cX6_hearsPart 114 = .ok (.iload 7, 2) := by decide +kernel
theorem dX6_hearsPart_116 : decode cX6_hearsPart 116 = .ok (.aload_n 0, 1) := by decide +kernel
theorem dX6_hearsPart_117 : decode cX6_hearsPart 117 = .ok (.getfield 22, 3) := by decide +kernel
theorem dX6_hearsPart_120 : decode cX6_hearsPart 120 = .ok (.invokevirtual 96, 3) := by decide +kernel
theorem dX6_hearsPart_123 : decode cX6_hearsPart 123 = .ok (.goto 50, 3) := by decide +kernel
theorem dX6_hearsPart_126 : decode cX6_hearsPart 126 = .ok (.aload 10, 2) := by decide +kernel
theorem dX6_hearsPart_128 : decode cX6_hearsPart 128 = .ok (.iload_n 2, 1) := by decide +kernel
theorem dX6_hearsPart_129 : decode cX6_hearsPart 129 = .ok (.iload 8, 2) := by decide +kernel
theorem dX6_hearsPart_131 : decode cX6_hearsPart 131 = .ok (.invokevirtual 100, 3) := by decide +kernel
theorem dX6_hearsPart_134 : decode cX6_hearsPart 134 = .ok (.ifCond .eq 5, 3) := by decide +kernel
theorem dX6_hearsPart_137 : decode cX6_hearsPart 137 = .ok (.iconst 0, 1) := by decide +kernel
theorem dX6_hearsPart_138 : decode cX6_hearsPart 138 = .ok (.ireturn, 1) := by decide +kernel
theorem dX6_hearsPart_139 : decode cX6_hearsPart 139 = .ok (.aload 10, 2) := by decide +kernel
theorem dX6_hearsPart_141 : decode cX6_hearsPart 141 = .ok (.iload_n 2, 1) := by decide +kernel
theorem dX6_hearsPart_142 : decode cX6_hearsPart 142 = .ok (.iload 8, 2) := by decide +kernel
theorem dX6_hearsPart_144 : decode cX6_hearsPart 144 = .ok (.invokevirtual 103, 3) := by decide +kernel
theorem dX6_hearsPart_147 : decode cX6_hearsPart 147 = .ok (.ifCond .eq 26, 3) := by decide +kernel
theorem dX6_hearsPart_150 : decode cX6_hearsPart 150 = .ok (.aload 10, 2) := by decide +kernel
theorem dX6_hearsPart_152 : decode cX6_hearsPart 152 = .ok (.iload 6, 2) := by decide +kernel
theorem dX6_hearsPart_154 : decode cX6_hearsPart 154 = .ok (.iload 7, 2) := by decide +kernel
theorem dX6_hearsPart_156 : decode cX6_hearsPart 156 = .ok (.aload_n 0, 1) := by decide +kernel
theorem dX6_hearsPart_157 : decode cX6_hearsPart 157 = .ok (.getfield 22, 3) := by decide +kernel
theorem dX6_hearsPart_160 : decode cX6_hearsPart 160 = .ok (.invokevirtual 96, 3) := by decide +kernel
theorem dX6_hearsPart_163 : decode cX6_hearsPart 163 = .ok (.aload_n 0, 1) := by decide +kernel
theorem dX6_hearsPart_164 : decode cX6_hearsPart 164 = .ok (.dup, 1) := by decide +kernel
theorem dX6_hearsPart_165 : decode cX6_hearsPart 165 = .ok (.getfield 106, 3) := by decide +kernel
theorem dX6_hearsPart_168 : decode cX6_hearsPart 168 = .ok (.iconst 1, 1) := by decide +kernel
theorem dX6_hearsPart_169 : decode cX6_hearsPart 169 = .ok (.iadd, 1) := by decide +kernel
theorem dX6_hearsPart_170 : decode cX6_hearsPart 170 = .ok (.putfield 106, 3) := by decide +kernel
theorem dX6_hearsPart_173 : decode cX6_hearsPart 173 = .ok (.aload 10, 2) := by decide +kernel
theorem dX6_hearsPart_175 : decode cX6_hearsPart 175 = .ok (.iload_n 2, 1) := by decide +kernel
theorem dX6_hearsPart_176 : decode cX6_hearsPart 176 = .ok (.aload_n 3, 1) := by decide +kernel
theorem dX6_hearsPart_177 : decode cX6_hearsPart 177 = .ok (.iload 4, 2) := by decide +kernel
theorem dX6_hearsPart_179 : decode cX6_hearsPart 179 = .ok (.invokevirtual 109, 3) := by decide +kernel
theorem dX6_hearsPart_182 : decode cX6_hearsPart 182 = .ok (.aload 10, 2) := by decide +kernel
theorem dX6_hearsPart_184 : decode cX6_hearsPart 184 = .ok (.invokevirtual 113, 3) := by decide +kernel
theorem dX6_hearsPart_187 : decode cX6_hearsPart 187 = .ok (.ifCond .ne 5, 3) := by decide +kernel
theorem dX6_hearsPart_190 : decode cX6_hearsPart 190 = .ok (.iconst 1, 1) := by decide +kernel
theorem dX6_hearsPart_191 : decode cX6_hearsPart 191 = .ok (.ireturn, 1) := by decide +kernel
theorem dX6_hearsPart_192 : decode cX6_hearsPart 192 = .ok (.aload 5, 2) := by decide +kernel
theorem dX6_hearsPart_194 : decode cX6_hearsPart 194 = .ok (.aload 10, 2) := by decide +kernel
theorem dX6_hearsPart_196 : decode cX6_hearsPart 196 = .ok (.invokevirtual 116, 3) := by decide +kernel
theorem dX6_hearsPart_199 : decode cX6_hearsPart 199 = .ok (.invokevirtual 73, 3) := by decide +kernel
theorem dX6_hearsPart_202 : decode cX6_hearsPart 202 = .ok (.aload 10, 2) := by decide +kernel
theorem dX6_hearsPart_204 : decode cX6_hearsPart 204 = .ok (.invokevirtual 119, 3) := by decide +kernel
theorem dX6_hearsPart_207 : decode cX6_hearsPart 207 = .ok (.iconst 2, 1) := by decide +kernel
theorem dX6_hearsPart_208 : decode cX6_hearsPart 208 = .ok (.ireturn, 1) := by decide +kernel
theorem dX6_zOf_0 : decode cX6_zOf 0 = .ok (.aload_n 0, 1) := by decide +kernel
theorem dX6_zOf_1 : decode cX6_zOf 1 = .ok (.iconst 0, 1) := by decide +kernel
theorem dX6_zOf_2 : decode cX6_zOf 2 = .ok (.iconst 2, 1) := by decide +kernel
theorem dX6_zOf_3 : decode cX6_zOf 3 = .ok (.invokevirtual 81, 3) := by decide +kernel
theorem dX6_zOf_6 : decode cX6_zOf 6 = .ok (.l2i, 1) := by decide +kernel
theorem dX6_zOf_7 : decode cX6_zOf 7 = .ok (.sipush 2047, 3) := by decide +kernel
theorem dX6_zOf_10 : decode cX6_zOf 10 = .ok (.iand, 1) := by decide +kernel
theorem dX6_zOf_11 : decode cX6_zOf 11 = .ok (.ireturn, 1) := by decide +kernel
theorem dX6_dropLateHeaps_0 : decode cX6_dropLateHeaps 0 = .ok (.iconst 0, 1) := by decide +kernel
theorem dX6_dropLateHeaps_1 : decode cX6_dropLateHeaps 1 = .ok (.istore_n 1, 1) := by decide +kernel
theorem dX6_dropLateHeaps_2 : decode cX6_dropLateHeaps 2 = .ok (.iload_n 1, 1) := by decide +kernel
theorem dX6_dropLateHeaps_3 : decode cX6_dropLateHeaps 3 = .ok (.iconst 3, 1) := by decide +kernel
theorem dX6_dropLateHeaps_4 : decode cX6_dropLateHeaps 4 = .ok (.if_icmp .ge 47, 3) := by decide +kernel
theorem dX6_dropLateHeaps_7 : decode cX6_dropLateHeaps 7 = .ok (.aload_n 0, 1) := by decide +kernel
theorem dX6_dropLateHeaps_8 : decode cX6_dropLateHeaps 8 = .ok (.getfield 13, 3) := by decide +kernel
theorem dX6_dropLateHeaps_11 : decode cX6_dropLateHeaps 11 = .ok (.iload_n 1, 1) := by decide +kernel
theorem dX6_dropLateHeaps_12 : decode cX6_dropLateHeaps 12 = .ok (.aaload, 1) := by decide +kernel
theorem dX6_dropLateHeaps_13 : decode cX6_dropLateHeaps 13 = .ok (.aload_n 0, 1) := by decide +kernel
theorem dX6_dropLateHeaps_14 : decode cX6_dropLateHeaps 14 = .ok (.getfield 22, 3) := by decide +kernel
theorem dX6_dropLateHeaps_17 : decode cX6_dropLateHeaps 17 = .ok (.bipush 60, 2) := by decide +kernel
theorem dX6_dropLateHeaps_19 : decode cX6_dropLateHeaps 19 = .ok (.isub, 1) := by decide +kernel
theorem dX6_dropLateHeaps_20 : decode cX6_dropLateHeaps 20 = .ok (.invokevirtual 122, 3) := by decide +kernel
theorem dX6_dropLateHeaps_23 : decode cX6_dropLateHeaps 23 = .ok (.ifCond .eq 22, 3) := by decide +kernel
theorem dX6_dropLateHeaps_26 : decode cX6_dropLateHeaps 26 = .ok (.aload_n 0, 1) := by decide +kernel
theorem dX6_dropLateHeaps_27 : decode cX6_dropLateHeaps 27 = .ok (.getfield 13, 3) := by decide +kernel
theorem dX6_dropLateHeaps_30 : decode cX6_dropLateHeaps 30 = .ok (.iload_n 1, 1) := by decide +kernel
theorem dX6_dropLateHeaps_31 : decode cX6_dropLateHeaps 31 = .ok (.aaload, 1) := by decide +kernel
theorem dX6_dropLateHeaps_32 : decode cX6_dropLateHeaps 32 = .ok (.invokevirtual 119, 3) := by decide +kernel
theorem dX6_dropLateHeaps_35 : decode cX6_dropLateHeaps 35 = .ok (.aload_n 0, 1) := by decide +kernel
theorem dX6_dropLateHeaps_36 : decode cX6_dropLateHeaps 36 = .ok (.dup, 1) := by decide +kernel
theorem dX6_dropLateHeaps_37 : decode cX6_dropLateHeaps 37 = .ok (.getfield 126, 3) := by decide +kernel
theorem dX6_dropLateHeaps_40 : decode cX6_dropLateHeaps 40 = .ok (.iconst 1, 1) := by decide +kernel
theorem dX6_dropLateHeaps_41 : decode cX6_dropLateHeaps 41 = .ok (.iadd, 1) := by decide +kernel
theorem dX6_dropLateHeaps_42 : decode cX6_dropLateHeaps 42 = .ok (.putfield 126, 3) := by decide +kernel
theorem dX6_dropLateHeaps_45 : decode cX6_dropLateHeaps 45 = .ok (.iinc 1 1, 3) := by decide +kernel
theorem dX6_dropLateHeaps_48 : decode cX6_dropLateHeaps 48 = .ok (.goto (-46), 3) := by decide +kernel
theorem dX6_dropLateHeaps_51 : decode cX6_dropLateHeaps 51 = .ok (.return_, 1) := by decide +kernel
theorem dX6_indexFor_0 : decode cX6_indexFor 0 = .ok (.iconst 0, 1) := by decide +kernel
theorem dX6_indexFor_1 : decode cX6_indexFor 1 = .ok (.istore_n 3, 1) := by decide +kernel
theorem dX6_indexFor_2 : decode cX6_indexFor 2 = .ok (.iconst 0, 1) := by decide +kernel
theorem dX6_indexFor_3 : decode cX6_indexFor 3 = .ok (.istore 4, 2) := by decide +kernel
theorem dX6_indexFor_5 : decode cX6_indexFor 5 = .ok (.iload 4, 2) := by decide +kernel
theorem dX6_indexFor_7 : decode cX6_indexFor 7 = .ok (.iconst 3, 1) := by decide +kernel
theorem dX6_indexFor_8 : decode cX6_indexFor 8 = .ok (.if_icmp .ge 43, 3) := by decide +kernel
theorem dX6_indexFor_11 : decode cX6_indexFor 11 = .ok (.aload_n 0, 1) := by decide +kernel
theorem dX6_indexFor_12 : decode cX6_indexFor 12 = .ok (.getfield 13, 3) := by decide +kernel
theorem dX6_indexFor_15 : decode cX6_indexFor 15 = .ok (.iload 4, 2) := by decide +kernel
theorem dX6_indexFor_17 : decode cX6_indexFor 17 = .ok (.aaload, 1) := by decide +kernel
theorem dX6_indexFor_18 : decode cX6_indexFor 18 = .ok (.iload_n 1, 1) := by decide +kernel
theorem dX6_indexFor_19 : decode cX6_indexFor 19 = .ok (.iload_n 2, 1) := by decide +kernel
theorem dX6_indexFor_20 : decode cX6_indexFor 20 = .ok (.invokevirtual 92, 3) := by decide +kernel
theorem dX6_indexFor_23 : decode cX6_indexFor 23 = .ok (.ifCond .eq 6, 3) := by decide +kernel
theorem dX6_indexFor_26 : decode cX6_indexFor 26 = .ok (.iload 4, 2) := by decide +kernel
theorem dX6_indexFor_28 : decode cX6_indexFor 28 = .ok (.ireturn, 1) := by decide +kernel
theorem dX6_indexFor_29 : decode cX6_indexFor 29 = .ok (.aload_n 0, 1) := by decide +kernel
theorem dX6_indexFor_30 : decode cX6_indexFor 30 = .ok (.getfield 13, 3) := by decide +kernel
theorem dX6_indexFor_33 : decode cX6_indexFor 33 = .ok (.iload 4, 2) := by decide +kernel
theorem dX6_indexFor_35 : decode cX6_indexFor 35 = .ok (.aaload, 1) := by decide +kernel
theorem dX6_indexFor_36 : decode cX6_indexFor 36 = .ok (.invokevirtual 26, 3) := by decide +kernel
theorem dX6_indexFor_39 : decode cX6_indexFor 39 = .ok (.ifCond .ne 6, 3) := by decide +kernel
theorem dX6_indexFor_42 : decode cX6_indexFor 42 = .ok (.iload 4, 2) := by decide +kernel
theorem dX6_indexFor_44 : decode cX6_indexFor 44 = .ok (.istore_n 3, 1) := by decide +kernel
theorem dX6_indexFor_45 : decode cX6_indexFor 45 = .ok (.iinc 4 1, 3) := by decide +kernel
theorem dX6_indexFor_48 : decode cX6_indexFor 48 = .ok (.goto (-43), 3) := by decide +kernel
theorem dX6_indexFor_51 : decode cX6_indexFor 51 = .ok (.iload_n 3, 1) := by decide +kernel
theorem dX6_indexFor_52 : decode cX6_indexFor 52 = .ok (.ireturn, 1) := by decide +kernel
theorem dX7_init_0 : decode cX7_init 0 = .ok (.aload_n 0, 1) := by decide +kernel
theorem dX7_init_1 : decode cX7_init 1 = .ok (.invokespecial 1, 3) := by decide +kernel
theorem dX7_init_4 : decode cX7_init 4 = .ok (.aload_n 0, 1) := by decide +kernel
theorem dX7_init_5 : decode cX7_init 5 = .ok (.iload_n 1, 1) := by decide +kernel
theorem dX7_init_6 : decode cX7_init 6 = .ok (.ifCond .ge 7, 3) := by decide +kernel
theorem dX7_init_9 : decode cX7_init 9 = .ok (.iconst 0, 1) := by decide +kernel
theorem dX7_init_10 : decode cX7_init 10 = .ok (.goto 4, 3) := by decide +kernel
theorem dX7_init_13 : decode cX7_init 13 = .ok (.iload_n 1, 1) := by decide +kernel
theorem dX7_init_14 : decode cX7_init 14 = .ok (.newarray .int, 2) := by decide +kernel
theorem dX7_init_16 : decode cX7_init 16 = .ok (.putfield 7, 3) := by decide +kernel
theorem dX7_init_19 : decode cX7_init 19 = .ok (.aload_n 0, 1) := by decide +kernel
theorem dX7_init_20 : decode cX7_init 20 = .ok (.iconst 0, 1) := by decide +kernel
theorem dX7_init_21 : decode cX7_init 21 = .ok (.putfield 13, 3) := by decide +kernel
theorem dX7_init_24 : decode cX7_init 24 = .ok (.return_, 1) := by decide +kernel
theorem dX7_length_0 : decode cX7_length 0 = .ok (.aload_n 0, 1) := by decide +kernel
theorem dX7_length_1 : decode cX7_length 1 = .ok (.getfield 13, 3) := by decide +kernel
theorem dX7_length_4 : decode cX7_length 4 = .ok (.ireturn, 1) := by decide +kernel
theorem dX7_has_0 : decode cX7_has 0 = .ok (.iload_n 1, 1) := by decide +kernel
theorem dX7_has_1 : decode cX7_has 1 = .ok (.ifCond .lt 15, 3) := by decide +kernel
theorem dX7_has_4 : decode cX7_has 4 = .ok (.iload_n 1, 1) := by decide +kernel
theorem dX7_has_5 : decode cX7_has 5 = .ok (.aload_n 0, 1) := by decide +kernel
theorem dX7_has_6 : decode cX7_has 6 = .ok (.getfield 13, 3) := by decide +kernel
theorem dX7_has_9 : decode cX7_has 9 = .ok (.if_icmp .ge 7, 3) := by decide +kernel
theorem dX7_has_12 : decode cX7_has 12 = .ok (.iconst 1, 1) := by decide +kernel
theorem dX7_has_13 : decode cX7_has 13 = .ok (.goto 4, 3) := by decide +kernel
theorem dX7_has_16 : decode cX7_has 16 = .ok (.iconst 0, 1) := by decide +kernel
theorem dX7_has_17 : decode cX7_has 17 = .ok (.ireturn, 1) := by decide +kernel
theorem dX7_takes_0 : decode cX7_takes 0 = .ok (.iload_n 1, 1) := by decide +kernel
theorem dX7_takes_1 : decode cX7_takes 1 = .ok (.aload_n 0, 1) := by decide +kernel
theorem dX7_takes_2 : decode cX7_takes 2 = .ok (.getfield 7, 3) := by decide +kernel
theorem dX7_takes_5 : decode cX7_takes 5 = .ok (.arraylength, 1) := by decide +kernel
theorem dX7_takes_6 : decode cX7_takes 6 = .ok (.aload_n 0, 1) := by decide +kernel
theorem dX7_takes_7 : decode cX7_takes 7 = .ok (.getfield 13, 3) := by decide +kernel
theorem dX7_takes_10 : decode cX7_takes 10 = .ok (.isub, 1) := by decide +kernel
theorem dX7_takes_11 : decode cX7_takes 11 = .ok (.if_icmp .gt 7, 3) := by decide +kernel
theorem dX7_takes_14 : decode cX7_takes 14 = .ok (.iconst 1, 1) := by decide +kernel
theorem dX7_takes_15 : decode cX7_takes 15 = .ok (.goto 4, 3) := by decide +kernel
theorem dX7_takes_18 : decode cX7_takes 18 = .ok (.iconst 0, 1) := by decide +kernel
theorem dX7_takes_19 : decode cX7_takes 19 = .ok (.ireturn, 1) := by decide +kernel
theorem dX7_at_0 : decode cX7_at 0 = .ok (.iload_n 1, 1) := by decide +kernel
theorem dX7_at_1 : decode cX7_at 1 = .ok (.ifCond .lt 29, 3) := by decide +kernel
theorem dX7_at_4 : decode cX7_at 4 = .ok (.iload_n 1, 1) := by decide +kernel
theorem dX7_at_5 : decode cX7_at 5 = .ok (.aload_n 0, 1) := by decide +kernel
theorem dX7_at_6 : decode cX7_at 6 = .ok (.getfield 13, 3) := by decide +kernel
theorem dX7_at_9 : decode cX7_at 9 = .ok (.if_icmp .ge 21, 3) := by decide +kernel
theorem dX7_at_12 : decode cX7_at 12 = .ok (.iload_n 1, 1) := by decide +kernel
theorem dX7_at_13 : decode cX7_at 13 = .ok (.aload_n 0, 1) := by decide +kernel
theorem dX7_at_14 : decode cX7_at 14 = .ok (.getfield 7, 3) := by decide +kernel
theorem dX7_at_17 : decode cX7_at 17 = .ok (.arraylength, 1) := by decide +kernel
theorem dX7_at_18 : decode cX7_at 18 = .ok (.if_icmp .ge 12, 3) := by decide +kernel
theorem dX7_at_21 : decode cX7_at 21 = .ok (.aload_n 0, 1) := by decide +kernel
theorem dX7_at_22 : decode cX7_at 22 = .ok (.getfield 7, 3) := by decide +kernel
theorem dX7_at_25 : decode cX7_at 25 = .ok (.iload_n 1, 1) := by decide +kernel
theorem dX7_at_26 : decode cX7_at 26 = .ok (.iaload, 1) := by decide +kernel
theorem dX7_at_27 : decode cX7_at 27 = .ok (.goto 4, 3) := by decide +kernel
theorem dX7_at_30 : decode cX7_at 30 = .ok (.iconst 0, 1) := by decide +kernel
theorem dX7_at_31 : decode cX7_at 31 = .ok (.ireturn, 1) := by decide +kernel
theorem dX7_set_0 : decode cX7_set 0 = .ok (.iload_n 1, 1) := by decide +kernel
theorem dX7_set_1 : decode cX7_set 1 = .ok (.ifCond .lt 31, 3) := by decide +kernel
theorem dX7_set_4 : decode cX7_set 4 = .ok (.iload_n 1, 1) := by decide +kernel
theorem dX7_set_5 : decode cX7_set 5 = .ok (.aload_n 0, 1) := by decide +kernel
theorem dX7_set_6 : decode cX7_set 6 = .ok (.getfield 13, 3) := by decide +kernel
theorem dX7_set_9 : decode cX7_set 9 = .ok (.if_icmp .ge 23, 3) := by decide +kernel
theorem dX7_set_12 : decode cX7_set 12 = .ok (.iload_n 1, 1) := by decide +kernel
theorem dX7_set_13 : decode cX7_set 13 = .ok (.aload_n 0, 1) := by decide +kernel
theorem dX7_set_14 : decode cX7_set 14 = .ok (.getfield 7, 3) := by decide +kernel
theorem dX7_set_17 : decode cX7_set 17 = .ok (.arraylength, 1) := by decide +kernel
theorem dX7_set_18 : decode cX7_set 18 = .ok (.if_icmp .ge 14, 3) := by decide +kernel
theorem dX7_set_21 : decode cX7_set 21 = .ok (.aload_n 0, 1) := by decide +kernel
theorem dX7_set_22 : decode cX7_set 22 = .ok (.getfield 7, 3) := by decide +kernel
theorem dX7_set_25 : decode cX7_set 25 = .ok (.iload_n 1, 1) := by decide +kernel
theorem dX7_set_26 : decode cX7_set 26 = .ok (.iload_n 2, 1) := by decide +kernel
theorem dX7_set_27 : decode cX7_set 27 = .ok (.sipush 255, 3) := by decide +kernel
theorem dX7_set_30 : decode cX7_set 30 = .ok (.iand, 1) := by decide +kernel
theorem dX7_set_31 : decode cX7_set 31 = .ok (.iastore, 1) := by decide +kernel
theorem dX7_set_32 : decode cX7_set 32 = .ok (.return_, 1) := by decide +kernel
theorem dX7_add_0 : decode cX7_add 0 = .ok (.aload_n 0, 1) := by decide +kernel
theorem dX7_add_1 : decode cX7_add 1 = .ok (.getfield 13, 3) := by decide +kernel
theorem dX7_add_4 : decode cX7_add 4 = .ok (.ifCond .lt 39, 3) := by decide +kernel
theorem dX7_add_7 : decode cX7_add 7 = .ok (.aload_n 0, 1) := by decide +kernel
theorem dX7_add_8 : decode cX7_add 8 = .ok (.getfield 13, 3) := by decide +kernel
theorem dX7_add_11 : decode cX7_add 11 = .ok (.aload_n 0, 1) := by decide +kernel
theorem dX7_add_12 : decode cX7_add 12 = .ok (.getfield 7, 3) := by decide +kernel
theorem dX7_add_15 : decode cX7_add 15 = .ok (.arraylength, 1) := by decide +kernel
theorem dX7_add_16 : decode cX7_add 16 = .ok (.if_icmp .ge 27, 3) := by decide +kernel
theorem dX7_add_19 : decode cX7_add 19 = .ok (.aload_n 0, 1) := by decide +kernel
theorem dX7_add_20 : decode cX7_add 20 = .ok (.getfield 7, 3) := by decide +kernel
theorem dX7_add_23 : decode cX7_add 23 = .ok (.aload_n 0, 1) := by decide +kernel
theorem dX7_add_24 : decode cX7_add 24 = .ok (.getfield 13, 3) := by decide +kernel
theorem dX7_add_27 : decode cX7_add 27 = .ok (.iload_n 1, 1) := by decide +kernel
theorem dX7_add_28 : decode cX7_add 28 = .ok (.sipush 255, 3) := by decide +kernel
theorem dX7_add_31 : decode cX7_add 31 = .ok (.iand, 1) := by decide +kernel
theorem dX7_add_32 : decode cX7_add 32 = .ok (.iastore, 1) := by decide +kernel
theorem dX7_add_33 : decode cX7_add 33 = .ok (.aload_n 0, 1) := by decide +kernel
theorem dX7_add_34 : decode cX7_add 34 = .ok (.dup, 1) := by decide +kernel
theorem dX7_add_35 : decode cX7_add 35 = .ok (.getfield 13, 3) := by decide +kernel
theorem dX7_add_38 : decode cX7_add 38 = .ok (.iconst 1, 1) := by decide +kernel
theorem dX7_add_39 : decode cX7_add 39 = .ok (.iadd, 1) := by decide +kernel
theorem dX7_add_40 : decode cX7_add 40 = .ok (.putfield 13, 3) := by decide +kernel
theorem dX7_add_43 : decode cX7_add 43 = .ok (.return_, 1) := by decide +kernel
theorem dX7_flip_0 : decode cX7_flip 0 = .ok (.aload_n 0, 1) := by decide +kernel
theorem dX7_flip_1 : decode cX7_flip 1 = .ok (.iload_n 1, 1) := by decide +kernel
theorem dX7_flip_2 : decode cX7_flip 2 = .ok (.aload_n 0, 1) := by decide +kernel
theorem dX7_flip_3 : decode cX7_flip 3 = .ok (.iload_n 1, 1) := by decide +kernel
theorem dX7_flip_4 : decode cX7_flip 4 = .ok (.invokevirtual 17, 3) := by decide +kernel
theorem dX7_flip_7 : decode cX7_flip 7 = .ok (.iload_n 2, 1) := by decide +kernel
theorem dX7_flip_8 : decode cX7_flip 8 = .ok (.ixor, 1) := by decide +kernel
theorem dX7_flip_9 : decode cX7_flip 9 = .ok (.invokevirtual 21, 3) := by decide +kernel
theorem dX7_flip_12 : decode cX7_flip 12 = .ok (.aload_n 0, 1) := by decide +kernel
theorem dX7_flip_13 : decode cX7_flip 13 = .ok (.iload_n 1, 1) := by decide +kernel
theorem dX7_flip_14 : decode cX7_flip 14 = .ok (.invokevirtual 17, 3) := by decide +kernel
theorem dX7_flip_17 : decode cX7_flip 17 = .ok (.ireturn, 1) := by decide +kernel
theorem dX7_shorten_0 : decode cX7_shorten 0 = .ok (.iload_n 1, 1) := by decide +kernel
theorem dX7_shorten_1 : decode cX7_shorten 1 = .ok (.ifCond .lt 16, 3) := by decide +kernel
theorem dX7_shorten_4 : decode cX7_shorten 4 = .ok (.iload_n 1, 1) := by decide +kernel
theorem dX7_shorten_5 : decode cX7_shorten 5 = .ok (.aload_n 0, 1) := by decide +kernel
theorem dX7_shorten_6 : decode cX7_shorten 6 = .ok (.getfield 13, 3) := by decide +kernel
theorem dX7_shorten_9 : decode cX7_shorten 9 = .ok (.if_icmp .ge 8, 3) := by decide +kernel
theorem dX7_shorten_12 : decode cX7_shorten 12 = .ok (.aload_n 0, 1) := by decide +kernel
theorem dX7_shorten_13 : decode cX7_shorten 13 = .ok (.iload_n 1, 1) := by decide +kernel
theorem dX7_shorten_14 : decode cX7_shorten 14 = .ok (.putfield 13, 3) := by decide +kernel
theorem dX7_shorten_17 : decode cX7_shorten 17 = .ok (.return_, 1) := by decide +kernel
theorem dX7_becomeZeros_0 : decode cX7_becomeZeros 0 = .ok (.aload_n 0, 1) := by decide +kernel
theorem dX7_becomeZeros_1 : decode cX7_becomeZeros 1 = .ok (.iconst 0, 1) := by decide +kernel
theorem dX7_becomeZeros_2 : decode cX7_becomeZeros 2 = .ok (.putfield 13, 3) := by decide +kernel
theorem dX7_becomeZeros_5 : decode cX7_becomeZeros 5 = .ok (.iconst 0, 1) := by decide +kernel
theorem dX7_becomeZeros_6 : decode cX7_becomeZeros 6 = .ok (.istore_n 2, 1) := by decide +kernel
theorem dX7_becomeZeros_7 : decode cX7_becomeZeros 7 = .ok (.iload_n 2, 1) := by decide +kernel
theorem dX7_becomeZeros_8 : decode cX7_becomeZeros 8 = .ok (.iload_n 1, 1) := by decide +kernel
theorem dX7_becomeZeros_9 : decode cX7_becomeZeros 9 = .ok (.if_icmp .ge 14, 3) := by decide +kernel
theorem dX7_becomeZeros_12 : decode cX7_becomeZeros 12 = .ok (.aload_n 0, 1) := by decide +kernel
theorem dX7_becomeZeros_13 : decode cX7_becomeZeros 13 = .ok (.iconst 0, 1) := by decide +kernel
theorem dX7_becomeZeros_14 : decode cX7_becomeZeros 14 = .ok (.invokevirtual 25, 3) := by decide +kernel
theorem dX7_becomeZeros_17 : decode cX7_becomeZeros 17 = .ok (.iinc 2 1, 3) := by decide +kernel
theorem dX7_becomeZeros_20 : decode cX7_becomeZeros 20 = .ok (.goto (-13), 3) := by decide +kernel
theorem dX7_becomeZeros_23 : decode cX7_becomeZeros 23 = .ok (.return_, 1) := by decide +kernel
theorem dX7_become_0 : decode cX7_become 0 = .ok (.aload_n 0, 1) := by decide +kernel
theorem dX7_become_1 : decode cX7_become 1 = .ok (.iconst 0, 1) := by decide +kernel
theorem dX7_become_2 : decode cX7_become 2 = .ok (.putfield 13, 3) := by decide +kernel
theorem dX7_become_5 : decode cX7_become 5 = .ok (.aload_n 0, 1) := by decide +kernel
theorem dX7_become_6 : decode cX7_become 6 = .ok (.aload_n 1, 1) := by decide +kernel
theorem dX7_become_7 : decode cX7_become 7 = .ok (.iconst 0, 1) := by decide +kernel
theorem dX7_become_8 : decode cX7_become 8 = .ok (.aload_n 1, 1) := by decide +kernel
theorem dX7_become_9 : decode cX7_become 9 = .ok (.invokevirtual 29, 3) := by decide +kernel
theorem dX7_become_12 : decode cX7_become 12 = .ok (.invokevirtual 32, 3) := by decide +kernel
theorem dX7_become_15 : decode cX7_become 15 = .ok (.return_, 1) := by decide +kernel
theorem dX7_addAll_0 : decode cX7_addAll 0 = .ok (.iload_n 2, 1) := by decide +kernel
theorem dX7_addAll_1 : decode cX7_addAll 1 = .ok (.istore 4, 2) := by decide +kernel
theorem dX7_addAll_3 : decode cX7_addAll 3 = .ok (.iload 4, 2) := by decide +kernel
theorem dX7_addAll_5 : decode cX7_addAll 5 = .ok (.iload_n 3, 1) := by decide +kernel
theorem dX7_addAll_6 : decode cX7_addAll 6 = .ok (.if_icmp .ge 19, 3) := by decide +kernel
theorem dX7_addAll_9 : decode cX7_addAll 9 = .ok (.aload_n 0, 1) := by decide +kernel
theorem dX7_addAll_10 : decode cX7_addAll 10 = .ok (.aload_n 1, 1) := by decide +kernel
theorem dX7_addAll_11 : decode cX7_addAll 11 = .ok (.iload 4, 2) := by decide +kernel
theorem dX7_addAll_13 : decode cX7_addAll 13 = .ok (.invokevirtual 17, 3) := by decide +kernel
theorem dX7_addAll_16 : decode cX7_addAll 16 = .ok (.invokevirtual 25, 3) := by decide +kernel
theorem dX7_addAll_19 : decode cX7_addAll 19 = .ok (.iinc 4 1, 3) := by decide +kernel
theorem dX7_addAll_22 : decode cX7_addAll 22 = .ok (.goto (-19), 3) := by decide +kernel
theorem dX7_addAll_25 : decode cX7_addAll 25 = .ok (.return_, 1) := by decide +kernel
theorem dX7_number_0 : decode cX7_number 0 = .ok (.lconst 0, 1) := by decide +kernel
theorem dX7_number_1 : decode cX7_number 1 = .ok (.lstore_n 3, 1) := by decide +kernel
theorem dX7_number_2 : decode cX7_number 2 = .ok (.iconst 0, 1) := by decide +kernel
theorem dX7_number_3 : decode cX7_number 3 = .ok (.istore 5, 2) := by decide +kernel
theorem dX7_number_5 : decode cX7_number 5 = .ok (.iload 5, 2) := by decide +kernel
theorem dX7_number_7 : decode cX7_number 7 = .ok (.iload_n 2, 1) := by decide +kernel
theorem dX7_number_8 : decode cX7_number 8 = .ok (.if_icmp .ge 24, 3) := by decide +kernel
theorem dX7_number_11 : decode cX7_number 11 = .ok (.lload_n 3, 1) := by decide +kernel
theorem dX7_number_12 : decode cX7_number 12 = .ok (.bipush 8, 2) := by decide +kernel
theorem dX7_number_14 : decode cX7_number 14 = .ok (.lshl, 1) := by decide +kernel
theorem dX7_number_15 : decode cX7_number 15 = .ok (.aload_n 0, 1) := by decide +kernel
theorem dX7_number_16 : decode cX7_number 16 = .ok (.iload_n 1, 1) := by decide +kernel
theorem dX7_number_17 : decode cX7_number 17 = .ok (.iload 5, 2) := by decide +kernel
theorem dX7_number_19 : decode cX7_number 19 = .ok (.iadd, 1) := by decide +kernel
theorem dX7_number_20 : decode cX7_number 20 = .ok (.invokevirtual 17, 3) := by decide +kernel
theorem dX7_number_23 : decode cX7_number 23 = .ok (.i2l, 1) := by decide +kernel
theorem dX7_number_24 : decode cX7_number 24 = .ok (.lor, 1) := by decide +kernel
theorem dX7_number_25 : decode cX7_number 25 = .ok (.lstore_n 3, 1) := by decide +kernel
theorem dX7_number_26 : decode cX7_number 26 = .ok (.iinc 5 1, 3) := by decide +kernel
theorem dX7_number_29 : decode cX7_number 29 = .ok (.goto (-24), 3) := by decide +kernel
theorem dX7_number_32 : decode cX7_number 32 = .ok (.lload_n 3, 1) := by decide +kernel
theorem dX7_number_33 : decode cX7_number 33 = .ok (.lreturn, 1) := by decide +kernel
theorem dX7_setNumber_0 : decode cX7_setNumber 0 = .ok (.iconst 0, 1) := by decide +kernel
theorem dX7_setNumber_1 : decode cX7_setNumber 1 = .ok (.istore 5, 2) := by decide +kernel
theorem dX7_setNumber_3 : decode cX7_setNumber 3 = .ok (.iload 5, 2) := by decide +kernel
theorem dX7_setNumber_5 : decode cX7_setNumber 5 = .ok (.iload 4, 2) := by decide +kernel
theorem dX7_setNumber_7 : decode cX7_setNumber 7 = .ok (.if_icmp .ge 30, 3) := by decide +kernel
theorem dX7_setNumber_10 : decode cX7_setNumber 10 = .ok (.aload_n 0, 1) := by decide +kernel
theorem dX7_setNumber_11 : decode cX7_setNumber 11 = .ok (.iload_n 1, 1) := by decide +kernel
theorem dX7_setNumber_12 : decode cX7_setNumber 12 = .ok (.iload 5, 2) := by decide +kernel
theorem dX7_setNumber_14 : decode cX7_setNumber 14 = .ok (.iadd, 1) := by decide +kernel
theorem dX7_setNumber_15 : decode cX7_setNumber 15 = .ok (.lload_n 2, 1) := by decide +kernel
theorem dX7_setNumber_16 : decode cX7_setNumber 16 = .ok (.bipush 8, 2) := by decide +kernel
theorem dX7_setNumber_18 : decode cX7_setNumber 18 = .ok (.iload 4, 2) := by decide +kernel
theorem dX7_setNumber_20 : decode cX7_setNumber 20 = .ok (.iconst 1, 1) := by decide +kernel
theorem dX7_setNumber_21 : decode cX7_setNumber 21 = .ok (.isub, 1) := by decide +kernel
theorem dX7_setNumber_22 : decode cX7_setNumber 22 = .ok (.iload 5, 2) := by decide +kernel
theorem dX7_setNumber_24 : decode cX7_setNumber 24 = .ok (.isub, 1) := by decide +kernel
theorem dX7_setNumber_25 : decode cX7_setNumber 25 = .ok (.imul, 1) := by decide +kernel
theorem dX7_setNumber_26 : decode cX7_setNumber 26 = .ok (.lushr, 1) := by decide +kernel
theorem dX7_setNumber_27 : decode cX7_setNumber 27 = .ok (.l2i, 1) := by decide +kernel
theorem dX7_setNumber_28 : decode cX7_setNumber 28 = .ok (.invokevirtual 21, 3) := by decide +kernel
theorem dX7_setNumber_31 : decode cX7_setNumber 31 = .ok (.iinc 5 1, 3) := by decide +kernel
theorem dX7_setNumber_34 : decode cX7_setNumber 34 = .ok (.goto (-31), 3) := by decide +kernel
theorem dX7_setNumber_37 : decode cX7_setNumber 37 = .ok (.return_, 1) := by decide +kernel
theorem dX7_addNumber_0 : decode cX7_addNumber 0 = .ok (.iconst 0, 1) := by decide +kernel
theorem dX7_addNumber_1 : decode cX7_addNumber 1 = .ok (.istore 4, 2) := by decide +kernel
theorem dX7_addNumber_3 : decode cX7_addNumber 3 = .ok (.iload 4, 2) := by decide +kernel
theorem dX7_addNumber_5 : decode cX7_addNumber 5 = .ok (.iload_n 3, 1) := by decide +kernel
theorem dX7_addNumber_6 : decode cX7_addNumber 6 = .ok (.if_icmp .ge 25, 3) := by decide +kernel
theorem dX7_addNumber_9 : decode cX7_addNumber 9 = .ok (.aload_n 0, 1) := by decide +kernel
theorem dX7_addNumber_10 : decode cX7_addNumber 10 = .ok (.lload_n 1, 1) := by decide +kernel
theorem dX7_addNumber_11 : decode cX7_addNumber 11 = .ok (.bipush 8, 2) := by decide +kernel
theorem dX7_addNumber_13 : decode cX7_addNumber 13 = .ok (.iload_n 3, 1) := by decide +kernel
theorem dX7_addNumber_14 : decode cX7_addNumber 14 = .ok (.iconst 1, 1) := by decide +kernel
theorem dX7_addNumber_15 : decode cX7_addNumber 15 = .ok (.isub, 1) := by decide +kernel
theorem dX7_addNumber_16 : decode cX7_addNumber 16 = .ok (.iload 4, 2) := by decide +kernel
theorem dX7_addNumber_18 : decode cX7_addNumber 18 = .ok (.isub, 1) := by decide +kernel
theorem dX7_addNumber_19 : decode cX7_addNumber 19 = .ok (.imul, 1) := by decide +kernel
theorem dX7_addNumber_20 : decode cX7_addNumber 20 = .ok (.lushr, 1) := by decide +kernel
theorem dX7_addNumber_21 : decode cX7_addNumber 21 = .ok (.l2i, 1) := by decide +kernel
theorem dX7_addNumber_22 : decode cX7_addNumber 22 = .ok (.invokevirtual 25, 3) := by decide +kernel
theorem dX7_addNumber_25 : decode cX7_addNumber 25 = .ok (.iinc 4 1, 3) := by decide +kernel
theorem dX7_addNumber_28 : decode cX7_addNumber 28 = .ok (.goto (-25), 3) := by decide +kernel
theorem dX7_addNumber_31 : decode cX7_addNumber 31 = .ok (.return_, 1) := by decide +kernel
theorem dX8_init_0 : decode cX8_init 0 = .ok (.aload_n 0, 1) := by decide +kernel
theorem dX8_init_1 : decode cX8_init 1 = .ok (.invokespecial 1, 3) := by decide +kernel
theorem dX8_init_4 : decode cX8_init 4 = .ok (.aload_n 0, 1) := by decide +kernel
theorem dX8_init_5 : decode cX8_init 5 = .ok (.aload_n 1, 1) := by decide +kernel
theorem dX8_init_6 : decode cX8_init 6 = .ok (.putfield 7, 3) := by decide +kernel
theorem dX8_init_9 : decode cX8_init 9 = .ok (.return_, 1) := by decide +kernel
theorem dX8_write_0 : decode cX8_write 0 = .ok (.aload_n 1, 1) := by decide +kernel
theorem dX8_write_1 : decode cX8_write 1 = .ok (.invokestatic 13, 3) := by decide +kernel
theorem dX8_write_4 : decode cX8_write 4 = .ok (.istore_n 3, 1) := by decide +kernel
theorem dX8_write_5 : decode cX8_write 5 = .ok (.aload_n 1, 1) := by decide +kernel
theorem dX8_write_6 : decode cX8_write 6 = .ok (.invokestatic 19, 3) := by decide +kernel
theorem dX8_write_9 : decode cX8_write 9 = .ok (.istore 4, 2) := by decide +kernel
theorem dX8_write_11 : decode cX8_write 11 = .ok (.aload_n 1, 1) := by decide +kernel
theorem dX8_write_12 : decode cX8_write 12 = .ok (.bipush 7, 2) := by decide +kernel
theorem dX8_write_14 : decode cX8_write 14 = .ok (.invokevirtual 23, 3) := by decide +kernel
theorem dX8_write_17 : decode cX8_write 17 = .ok (.invokestatic 29, 3) := by decide +kernel
theorem dX8_write_20 : decode cX8_write 20 = .ok (.istore 5, 2) := by decide +kernel
theorem dX8_write_22 : decode cX8_write 22 = .ok (.aload_n 1, 1) := by decide +kernel
theorem dX8_write_23 : decode cX8_write 23 = .ok (.bipush 8, 2) := by decide +kernel
theorem dX8_write_25 : decode cX8_write 25 = .ok (.bipush 8, 2) := by decide +kernel
theorem dX8_write_27 : decode cX8_write 27 = .ok (.invokevirtual 32, 3) := by decide +kernel
theorem dX8_write_30 : decode cX8_write 30 = .ok (.lstore 6, 2) := by decide +kernel
theorem dX8_write_32 : decode cX8_write 32 = .ok (.aload_n 1, 1) := by decide +kernel
theorem dX8_write_33 : decode cX8_write 33 = .ok (.bipush 16, 2) := by decide +kernel
theorem dX8_write_35 : decode cX8_write 35 = .ok (.bipush 8, 2) := by decide +kernel
theorem dX8_write_37 : decode cX8_write 37 = .ok (.invokevirtual 32, 3) := by decide +kernel
theorem dX8_write_40 : decode cX8_write 40 = .ok (.lstore 8, 2) := by decide +kernel
theorem dX8_write_42 : decode cX8_write 42 = .ok (.aload_n 1, 1) := by decide +kernel
theorem dX8_write_43 : decode cX8_write 43 = .ok (.bipush 24, 2) := by decide +kernel
theorem dX8_write_45 : decode cX8_write 45 = .ok (.bipush 8, 2) := by decide +kernel
theorem dX8_write_47 : decode cX8_write 47 = .ok (.invokevirtual 32, 3) := by decide +kernel
theorem dX8_write_50 : decode cX8_write 50 = .ok (.lstore 10, 2) := by decide +kernel
theorem dX8_write_52 : decode cX8_write 52 = .ok (.aload_n 1, 1) := by decide +kernel
theorem dX8_write_53 : decode cX8_write 53 = .ok (.bipush 32, 2) := by decide +kernel
theorem dX8_write_55 : decode cX8_write 55 = .ok (.bipush 8, 2) := by decide +kernel
theorem dX8_write_57 : decode cX8_write 57 = .ok (.invokevirtual 32, 3) := by decide +kernel
theorem dX8_write_60 : decode cX8_write 60 = .ok (.lstore 12, 2) := by decide +kernel
theorem dX8_write_62 : decode cX8_write 62 = .ok (.aload_n 0, 1) := by decide +kernel
theorem dX8_write_63 : decode cX8_write 63 = .ok (.getfield 7, 3) := by decide +kernel
theorem dX8_write_66 : decode cX8_write 66 = .ok (.lload 6, 2) := by decide +kernel
theorem dX8_write_68 : decode cX8_write 68 = .ok (.lload 8, 2) := by decide +kernel
theorem dX8_write_70 : decode cX8_write 70 = .ok (.invokestatic 36, 3) := by decide +kernel
theorem dX8_write_73 : decode cX8_write 73 = .ok (.istore 14, 2) := by decide +kernel
theorem dX8_write_75 : decode cX8_write 75 = .ok (.aload_n 0, 1) := by decide +kernel
theorem dX8_write_76 : decode cX8_write 76 = .ok (.getfield 7, 3) := by decide +kernel
theorem dX8_write_79 : decode cX8_write 79 = .ok (.lload 10, 2) := by decide +kernel
theorem dX8_write_81 : decode cX8_write 81 = .ok (.lload 12, 2) := by decide +kernel
theorem dX8_write_83 : decode cX8_write 83 = .ok (.invokestatic 42, 3) := by decide +kernel
theorem dX8_write_86 : decode cX8_write 86 = .ok (.istore 15, 2) := by decide +kernel
theorem dX8_write_88 : decode cX8_write 88 = .ok (.bipush 16, 2) := by decide +kernel
theorem dX8_write_90 : decode cX8_write 90 = .ok (.aload_n 0, 1) := by decide +kernel
theorem dX8_write_91 : decode cX8_write 91 = .ok (.iload 14, 2) := by decide +kernel
theorem dX8_write_93 : decode cX8_write 93 = .ok (.lload 6, 2) := by decide +kernel
theorem dX8_write_95 : decode cX8_write 95 = .ok (.invokevirtual 45, 3) := by decide +kernel
theorem dX8_write_98 : decode cX8_write 98 = .ok (.imul, 1) := by decide +kernel
theorem dX8_write_99 : decode cX8_write 99 = .ok (.aload_n 0, 1) := by decide +kernel
theorem dX8_write_100 : decode cX8_write 100 = .ok (.iload 15, 2) := by decide +kernel
theorem dX8_write_102 : decode cX8_write 102 = .ok (.lload 10, 2) := by decide +kernel
theorem dX8_write_104 : decode cX8_write 104 = .ok (.invokevirtual 45, 3) := by decide +kernel
theorem dX8_write_107 : decode cX8_write 107 = .ok (.iadd, 1) := by decide +kernel
theorem dX8_write_108 : decode cX8_write 108 = .ok (.istore 16, 2) := by decide +kernel
theorem dX8_write_110 : decode cX8_write 110 = .ok (.aload_n 2, 1) := by decide +kernel
theorem dX8_write_111 : decode cX8_write 111 = .ok (.iconst 0, 1) := by decide +kernel
theorem dX8_write_112 : decode cX8_write 112 = .ok (.invokevirtual 49, 3) := by decide +kernel
theorem dX8_write_115 : decode cX8_write 115 = .ok (.aload_n 2, 1) := by decide +kernel
theorem dX8_write_116 : decode cX8_write 116 = .ok (.bipush 96, 2) := by decide +kernel
theorem dX8_write_118 : decode cX8_write 118 = .ok (.iload 4, 2) := by decide +kernel
theorem dX8_write_120 : decode cX8_write 120 = .ok (.iconst 3, 1) := by decide +kernel
theorem dX8_write_121 : decode cX8_write 121 = .ok (.ishl, 1) := by decide +kernel
theorem dX8_write_122 : decode cX8_write 122 = .ok (.ior, 1) := by decide +kernel
theorem dX8_write_123 : decode cX8_write 123 = .ok (.iload_n 3, 1) := by decide +kernel
theorem dX8_write_124 : decode cX8_write 124 = .ok (.ifCond .eq 7, 3) := by decide +kernel
theorem dX8_write_127 : decode cX8_write 127 = .ok (.iconst 4, 1) := by decide +kernel
theorem dX8_write_128 : decode cX8_write 128 = .ok (.goto 4, 3) := by decide +kernel
theorem dX8_write_131 : decode cX8_write 131 = .ok (.iconst 0, 1) := by decide +kernel
theorem dX8_write_132 : decode cX8_write 132 = .ok (.ior, 1) := by decide +kernel
theorem dX8_write_133 : decode cX8_write 133 = .ok (.iload 5, 2) := by decide +kernel
theorem dX8_write_135 : decode cX8_write 135 = .ok (.ior, 1) := by decide +kernel
theorem dX8_write_136 : decode cX8_write 136 = .ok (.invokevirtual 53, 3) := by decide +kernel
theorem dX8_write_139 : decode cX8_write 139 = .ok (.aload_n 2, 1) := by decide +kernel
theorem dX8_write_140 : decode cX8_write 140 = .ok (.iload 16, 2) := by decide +kernel
theorem dX8_write_142 : decode cX8_write 142 = .ok (.ifCond .eq 9, 3) := by decide +kernel
theorem dX8_write_145 : decode cX8_write 145 = .ok (.sipush 128, 3) := by decide +kernel
theorem dX8_write_148 : decode cX8_write 148 = .ok (.goto 4, 3) := by decide +kernel
theorem dX8_write_151 : decode cX8_write 151 = .ok (.iconst 0, 1) := by decide +kernel
theorem dX8_write_152 : decode cX8_write 152 = .ok (.iload 14, 2) := by decide +kernel
theorem dX8_write_154 : decode cX8_write 154 = .ok (.iconst 4, 1) := by decide +kernel
theorem dX8_write_155 : decode cX8_write 155 = .ok (.ishl, 1) := by decide +kernel
theorem dX8_write_156 : decode cX8_write 156 = .ok (.ior, 1) := by decide +kernel
theorem dX8_write_157 : decode cX8_write 157 = .ok (.iload 15, 2) := by decide +kernel
theorem dX8_write_159 : decode cX8_write 159 = .ok (.ior, 1) := by decide +kernel
theorem dX8_write_160 : decode cX8_write 160 = .ok (.invokevirtual 53, 3) := by decide +kernel
theorem dX8_write_163 : decode cX8_write 163 = .ok (.iload 16, 2) := by decide +kernel
theorem dX8_write_165 : decode cX8_write 165 = .ok (.ifCond .eq 9, 3) := by decide +kernel
theorem dX8_write_168 : decode cX8_write 168 = .ok (.aload_n 2, 1) := by decide +kernel
theorem dX8_write_169 : decode cX8_write 169 = .ok (.iload 16, 2) := by decide +kernel
theorem dX8_write_171 : decode cX8_write 171 = .ok (.invokevirtual 53, 3) := by decide +kernel
theorem dX8_write_174 : decode cX8_write 174 = .ok (.aload_n 1, 1) := by decide +kernel
theorem dX8_write_175 : decode cX8_write 175 = .ok (.iload 4, 2) := by decide +kernel
theorem dX8_write_177 : decode cX8_write 177 = .ok (.aload_n 2, 1) := by decide +kernel
theorem dX8_write_178 : decode cX8_write 178 = .ok (.invokestatic 56, 3) := by decide +kernel
theorem dX8_write_181 : decode cX8_write 181 = .ok (.iload_n 3, 1) := by decide +kernel
theorem dX8_write_182 : decode cX8_write 182 = .ok (.ifCond .ne 13, 3) := by decide +kernel
theorem dX8_write_185 : decode cX8_write 185 = .ok (.aload_n 2, 1) := by decide +kernel
theorem dX8_write_186 : decode cX8_write 186 = .ok (.aload_n 1, 1) := by decide +kernel
theorem dX8_write_187 : decode cX8_write 187 = .ok (.bipush 6, 2) := by decide +kernel
theorem dX8_write_189 : decode cX8_write 189 = .ok (.invokevirtual 23, 3) := by decide +kernel
theorem dX8_write_192 : decode cX8_write 192 = .ok (.invokevirtual 53, 3) := by decide +kernel
theorem dX8_write_195 : decode cX8_write 195 = .ok (.iload 5, 2) := by decide +kernel
theorem dX8_write_197 : decode cX8_write 197 = .ok (.ifCond .ne 13, 3) := by decide +kernel
theorem dX8_write_200 : decode cX8_write 200 = .ok (.aload_n 2, 1) := by decide +kernel
theorem dX8_write_201 : decode cX8_write 201 = .ok (.aload_n 1, 1) := by decide +kernel
theorem dX8_write_202 : decode cX8_write 202 = .ok (.bipush 7, 2) := by decide +kernel
theorem dX8_write_204 : decode cX8_write 204 = .ok (.invokevirtual 23, 3) := by decide +kernel
theorem dX8_write_207 : decode cX8_write 207 = .ok (.invokevirtual 53, 3) := by decide +kernel
theorem dX8_write_210 : decode cX8_write 210 = .ok (.iload 14, 2) := by decide +kernel
theorem dX8_write_212 : decode cX8_write 212 = .ok (.lload 6, 2) := by decide +kernel
theorem dX8_write_214 : decode cX8_write 214 = .ok (.lload 8, 2) := by decide +kernel
theorem dX8_write_216 : decode cX8_write 216 = .ok (.aload_n 2, 1) := by decide +kernel
theorem dX8_write_217 : decode cX8_write 217 = .ok (.invokestatic 60, 3) := by decide +kernel
theorem dX8_write_220 : decode cX8_write 220 = .ok (.iload 15, 2) := by decide +kernel
theorem dX8_write_222 : decode cX8_write 222 = .ok (.lload 10, 2) := by decide +kernel
theorem dX8_write_224 : decode cX8_write 224 = .ok (.lload 12, 2) := by decide +kernel
theorem dX8_write_226 : decode cX8_write 226 = .ok (.aload_n 2, 1) := by decide +kernel
theorem dX8_write_227 : decode cX8_write 227 = .ok (.invokestatic 60, 3) := by decide +kernel
theorem dX8_write_230 : decode cX8_write 230 = .ok (.iload_n 3, 1) := by decide +kernel
theorem dX8_write_231 : decode cX8_write 231 = .ok (.ifCond .eq 8, 3) := by decide +kernel
theorem dX8_write_234 : decode cX8_write 234 = .ok (.aload_n 1, 1) := by decide +kernel
theorem dX8_write_235 : decode cX8_write 235 = .ok (.aload_n 2, 1) := by decide +kernel
theorem dX8_write_236 : decode cX8_write 236 = .ok (.invokestatic 64, 3) := by decide +kernel
theorem dX8_write_239 : decode cX8_write 239 = .ok (.aload_n 2, 1) := by decide +kernel
theorem dX8_write_240 : decode cX8_write 240 = .ok (.invokevirtual 68, 3) := by decide +kernel
theorem dX8_write_243 : decode cX8_write 243 = .ok (.istore 17, 2) := by decide +kernel
theorem dX8_write_245 : decode cX8_write 245 = .ok (.aload_n 2, 1) := by decide +kernel
theorem dX8_write_246 : decode cX8_write 246 = .ok (.aload_n 1, 1) := by decide +kernel
theorem dX8_write_247 : decode cX8_write 247 = .ok (.aload_n 1, 1) := by decide +kernel
theorem dX8_write_248 : decode cX8_write 248 = .ok (.invokestatic 72, 3) := by decide +kernel
theorem dX8_write_251 : decode cX8_write 251 = .ok (.aload_n 1, 1) := by decide +kernel
theorem dX8_write_252 : decode cX8_write 252 = .ok (.invokevirtual 68, 3) := by decide +kernel
theorem dX8_write_255 : decode cX8_write 255 = .ok (.invokevirtual 75, 3) := by decide +kernel
theorem dX8_write_258 : decode cX8_write 258 = .ok (.iload 17, 2) := by decide +kernel
theorem dX8_write_260 : decode cX8_write 260 = .ok (.ireturn, 1) := by decide +kernel
theorem dX8_contextOf_0 : decode cX8_contextOf 0 = .ok (.iload_n 1, 1) := by decide +kernel
theorem dX8_contextOf_1 : decode cX8_contextOf 1 = .ok (.invokestatic 79, 3) := by decide +kernel
theorem dX8_contextOf_4 : decode cX8_contextOf 4 = .ok (.ifCond .eq 14, 3) := by decide +kernel
theorem dX8_contextOf_7 : decode cX8_contextOf 7 = .ok (.aload_n 0, 1) := by decide +kernel
theorem dX8_contextOf_8 : decode cX8_contextOf 8 = .ok (.getfield 7, 3) := by decide +kernel
theorem dX8_contextOf_11 : decode cX8_contextOf 11 = .ok (.lload_n 2, 1) := by decide +kernel
theorem dX8_contextOf_12 : decode cX8_contextOf 12 = .ok (.invokevirtual 83, 3) := by decide +kernel
theorem dX8_contextOf_15 : decode cX8_contextOf 15 = .ok (.goto 4, 3) := by decide +kernel
theorem dX8_contextOf_18 : decode cX8_contextOf 18 = .ok (.iconst 0, 1) := by decide +kernel
theorem dX8_contextOf_19 : decode cX8_contextOf 19 = .ok (.ireturn, 1) := by decide +kernel
theorem dX8_trafficOf_0 : decode cX8_trafficOf 0 = .ok (.aload_n 0, 1) := by decide +kernel
theorem dX8_trafficOf_1 : decode cX8_trafficOf 1 = .ok (.invokestatic 89, 3) := by decide +kernel
theorem dX8_trafficOf_4 : decode cX8_trafficOf 4 = .ok (.istore_n 1, 1) := by decide +kernel
theorem dX8_trafficOf_5 : decode cX8_trafficOf 5 = .ok (.aload_n 0, 1) := by decide +kernel
theorem dX8_trafficOf_6 : decode cX8_trafficOf 6 = .ok (.invokestatic 92, 3) := by decide +kernel
theorem dX8_trafficOf_9 : decode cX8_trafficOf 9 = .ok (.ifCond .ne 13, 3) := by decide +kernel
theorem dX8_trafficOf_12 : decode cX8_trafficOf 12 = .ok (.iload_n 1, 1) := by decide +kernel
theorem dX8_trafficOf_13 : decode cX8_trafficOf 13 = .ok (.ifCond .ne 7, 3) := by decide +kernel
theorem dX8_trafficOf_16 : decode cX8_trafficOf 16 = .ok (.iconst 3, 1) := by decide +kernel
theorem dX8_trafficOf_17 : decode cX8_trafficOf 17 = .ok (.goto 4, 3) := by decide +kernel
theorem dX8_trafficOf_20 : decode cX8_trafficOf 20 = .ok (.iconst 2, 1) := by decide +kernel
theorem dX8_trafficOf_21 : decode cX8_trafficOf 21 = .ok (.ireturn, 1) := by decide +kernel
theorem dX8_trafficOf_22 : decode cX8_trafficOf 22 = .ok (.iload_n 1, 1) := by decide +kernel
theorem dX8_trafficOf_23 : decode cX8_trafficOf 23 = .ok (.iconst 2, 1) := by decide +kernel
theorem dX8_trafficOf_24 : decode cX8_trafficOf 24 = .ok (.ishr, 1) := by decide +kernel
theorem dX8_trafficOf_25 : decode cX8_trafficOf 25 = .ok (.ifCond .ne 7, 3) := by decide +kernel
theorem dX8_trafficOf_28 : decode cX8_trafficOf 28 = .ok (.iconst 1, 1) := by decide +kernel
theorem dX8_trafficOf_29 : decode cX8_trafficOf 29 = .ok (.goto 4, 3) := by decide +kernel
theorem dX8_trafficOf_32 : decode cX8_trafficOf 32 = .ok (.iconst 0, 1) := by decide +kernel
theorem dX8_trafficOf_33 : decode cX8_trafficOf 33 = .ok (.ireturn, 1) := by decide +kernel
theorem dX8_hopsOf_0 : decode cX8_hopsOf 0 = .ok (.iload_n 0, 1) := by decide +kernel
theorem dX8_hopsOf_1 : decode cX8_hopsOf 1 = .ok (.lookupswitch 41 #[(1, 35), (64, 37), (255, 39)], 35) := by decide +kernel
theorem dX8_hopsOf_36 : decode cX8_hopsOf 36 = .ok (.iconst 1, 1) := by decide +kernel
theorem dX8_hopsOf_37 : decode cX8_hopsOf 37 = .ok (.ireturn, 1) := by decide +kernel
theorem dX8_hopsOf_38 : decode cX8_hopsOf 38 = .ok (.iconst 2, 1) := by decide +kernel
theorem dX8_hopsOf_39 : decode cX8_hopsOf 39 = .ok (.ireturn, 1) := by decide +kernel
theorem dX8_hopsOf_40 : decode cX8_hopsOf 40 = .ok (.iconst 3, 1) := by decide +kernel
theorem dX8_hopsOf_41 : decode cX8_hopsOf 41 = .ok (.ireturn, 1) := by decide +kernel
theorem dX8_hopsOf_42 : decode cX8_hopsOf 42 = .ok (.iconst 0, 1) := by decide +kernel
theorem dX8_hopsOf_43 : decode cX8_hopsOf 43 = .ok (.ireturn, 1) := by decide +kernel
theorem dX8_writeTraffic_0 : decode cX8_writeTraffic 0 = .ok (.aload_n 0, 1) := by decide +kernel
theorem dX8_writeTraffic_1 : decode cX8_writeTraffic 1 = .ok (.invokestatic 89, 3) := by decide +kernel
theorem dX8_writeTraffic_4 : decode cX8_writeTraffic 4 = .ok (.istore_n 3, 1) := by decide +kernel
theorem dX8_writeTraffic_5 : decode cX8_writeTraffic 5 = .ok (.aload_n 0, 1) := by decide +kernel
theorem dX8_writeTraffic_6 : decode cX8_writeTraffic 6 = .ok (.invokestatic 92, 3) := by decide +kernel
theorem dX8_writeTraffic_9 : decode cX8_writeTraffic 9 = .ok (.istore 4, 2) := by decide +kernel
theorem dX8_writeTraffic_11 : decode cX8_writeTraffic 11 = .ok (.iload_n 3, 1) := by decide +kernel
theorem dX8_writeTraffic_12 : decode cX8_writeTraffic 12 = .ok (.iconst 3, 1) := by decide +kernel
theorem dX8_writeTraffic_13 : decode cX8_writeTraffic 13 = .ok (.iand, 1) := by decide +kernel
theorem dX8_writeTraffic_14 : decode cX8_writeTraffic 14 = .ok (.bipush 6, 2) := by decide +kernel
theorem dX8_writeTraffic_16 : decode cX8_writeTraffic 16 = .ok (.ishl, 1) := by decide +kernel
theorem dX8_writeTraffic_17 : decode cX8_writeTraffic 17 = .ok (.iload_n 3, 1) := by decide +kernel
theorem dX8_writeTraffic_18 : decode cX8_writeTraffic 18 = .ok (.iconst 2, 1) := by decide +kernel
theorem dX8_writeTraffic_19 : decode cX8_writeTraffic 19 = .ok (.ishr, 1) := by decide +kernel
theorem dX8_writeTraffic_20 : decode cX8_writeTraffic 20 = .ok (.ior, 1) := by decide +kernel
theorem dX8_writeTraffic_21 : decode cX8_writeTraffic 21 = .ok (.istore 5, 2) := by decide +kernel
theorem dX8_writeTraffic_23 : decode cX8_writeTraffic 23 = .ok (.iload_n 1, 1) := by decide +kernel
theorem dX8_writeTraffic_24 : decode cX8_writeTraffic 24 = .ok (.ifCond .ne 20, 3) := by decide +kernel
theorem dX8_writeTraffic_27 : decode cX8_writeTraffic 27 = .ok (.aload_n 2, 1) := by decide +kernel
theorem dX8_writeTraffic_28 : decode cX8_writeTraffic 28 = .ok (.iload 5, 2) := by decide +kernel
theorem dX8_writeTraffic_30 : decode cX8_writeTraffic 30 = .ok (.invokevirtual 53, 3) := by decide +kernel
theorem dX8_writeTraffic_33 : decode cX8_writeTraffic 33 = .ok (.aload_n 2, 1) := by decide +kernel
theorem dX8_writeTraffic_34 : decode cX8_writeTraffic 34 = .ok (.iload 4, 2) := by decide +kernel
theorem dX8_writeTraffic_36 : decode cX8_writeTraffic 36 = .ok (.i2l, 1) := by decide +kernel
theorem dX8_writeTraffic_37 : decode cX8_writeTraffic 37 = .ok (.iconst 3, 1) := by decide +kernel
theorem dX8_writeTraffic_38 : decode cX8_writeTraffic 38 = .ok (.invokevirtual 95, 3) := by decide +kernel
theorem dX8_writeTraffic_41 : decode cX8_writeTraffic 41 = .ok (.goto 36, 3) := by decide +kernel
theorem dX8_writeTraffic_44 : decode cX8_writeTraffic 44 = .ok (.iload_n 1, 1) := by decide +kernel
theorem dX8_writeTraffic_45 : decode cX8_writeTraffic 45 = .ok (.iconst 1, 1) := by decide +kernel
theorem dX8_writeTraffic_46 : decode cX8_writeTraffic 46 = .ok (.if_icmp .ne 20, 3) := by decide +kernel
theorem dX8_writeTraffic_49 : decode cX8_writeTraffic 49 = .ok (.aload_n 2, 1) := by decide +kernel
theorem dX8_writeTraffic_50 : decode cX8_writeTraffic 50 = .ok (.iload 5, 2) := by decide +kernel
theorem dX8_writeTraffic_52 : decode cX8_writeTraffic 52 = .ok (.bipush 16, 2) := by decide +kernel
theorem dX8_writeTraffic_54 : decode cX8_writeTraffic 54 = .ok (.ishl, 1) := by decide +kernel
theorem dX8_writeTraffic_55 : decode cX8_writeTraffic 55 = .ok (.iload 4, 2) := by decide +kernel
theorem dX8_writeTraffic_57 : decode cX8_writeTraffic 57 = .ok (.ior, 1) := by decide +kernel
theorem dX8_writeTraffic_58 : decode cX8_writeTraffic 58 = .ok (.i2l, 1) := by decide +kernel
theorem dX8_writeTraffic_59 : decode cX8_writeTraffic 59 = .ok (.iconst 3, 1) := by decide +kernel
theorem dX8_writeTraffic_60 : decode cX8_writeTraffic 60 = .ok (.invokevirtual 95, 3) := by decide +kernel
theorem dX8_writeTraffic_63 : decode cX8_writeTraffic 63 = .ok (.goto 14, 3) := by decide +kernel
theorem dX8_writeTraffic_66 : decode cX8_writeTraffic 66 = .ok (.iload_n 1, 1) := by decide +kernel
theorem dX8_writeTraffic_67 : decode cX8_writeTraffic 67 = .ok (.iconst 2, 1) := by decide +kernel
theorem dX8_writeTraffic_68 : decode cX8_writeTraffic 68 = .ok (.if_icmp .ne 9, 3) := by decide +kernel
theorem dX8_writeTraffic_71 : decode cX8_writeTraffic 71 = .ok (.aload_n 2, 1) := by decide +kernel
theorem dX8_writeTraffic_72 : decode cX8_writeTraffic 72 = .ok (.iload 5, 2) := by decide +kernel
theorem dX8_writeTraffic_74 : decode cX8_writeTraffic 74 = .ok (.invokevirtual 53, 3) := by decide +kernel
theorem dX8_writeTraffic_77 : decode cX8_writeTraffic 77 = .ok (.return_, 1) := by decide +kernel
theorem dX8_writeAddress_0 : decode cX8_writeAddress 0 = .ok (.iload_n 0, 1) := by decide +kernel
theorem dX8_writeAddress_1 : decode cX8_writeAddress 1 = .ok (.invokestatic 99, 3) := by decide +kernel
theorem dX8_writeAddress_4 : decode cX8_writeAddress 4 = .ok (.istore 6, 2) := by decide +kernel
theorem dX8_writeAddress_6 : decode cX8_writeAddress 6 = .ok (.iload 6, 2) := by decide +kernel
theorem dX8_writeAddress_8 : decode cX8_writeAddress 8 = .ok (.bipush 16, 2) := by decide +kernel
theorem dX8_writeAddress_10 : decode cX8_writeAddress 10 = .ok (.if_icmp .ne 22, 3) := by decide +kernel
theorem dX8_writeAddress_13 : decode cX8_writeAddress 13 = .ok (.aload 5, 2) := by decide +kernel
theorem dX8_writeAddress_15 : decode cX8_writeAddress 15 = .ok (.lload_n 1, 1) := by decide +kernel
theorem dX8_writeAddress_16 : decode cX8_writeAddress 16 = .ok (.bipush 8, 2) := by decide +kernel
theorem dX8_writeAddress_18 : decode cX8_writeAddress 18 = .ok (.invokevirtual 95, 3) := by decide +kernel
theorem dX8_writeAddress_21 : decode cX8_writeAddress 21 = .ok (.aload 5, 2) := by decide +kernel
theorem dX8_writeAddress_23 : decode cX8_writeAddress 23 = .ok (.lload_n 3, 1) := by decide +kernel
theorem dX8_writeAddress_24 : decode cX8_writeAddress 24 = .ok (.bipush 8, 2) := by decide +kernel
theorem dX8_writeAddress_26 : decode cX8_writeAddress 26 = .ok (.invokevirtual 95, 3) := by decide +kernel
theorem dX8_writeAddress_29 : decode cX8_writeAddress 29 = .ok (.goto 46, 3) := by decide +kernel
theorem dX8_writeAddress_32 : decode cX8_writeAddress 32 = .ok (.iload_n 0, 1) := by decide +kernel
theorem dX8_writeAddress_33 : decode cX8_writeAddress 33 = .ok (.bipush 9, 2) := by decide +kernel
theorem dX8_writeAddress_35 : decode cX8_writeAddress 35 = .ok (.if_icmp .eq 9, 3) := by decide +kernel
theorem dX8_writeAddress_38 : decode cX8_writeAddress 38 = .ok (.iload_n 0, 1) := by decide +kernel
theorem dX8_writeAddress_39 : decode cX8_writeAddress 39 = .ok (.bipush 10, 2) := by decide +kernel
theorem dX8_writeAddress_41 : decode cX8_writeAddress 41 = .ok (.if_icmp .ne 26, 3) := by decide +kernel
theorem dX8_writeAddress_44 : decode cX8_writeAddress 44 = .ok (.aload 5, 2) := by decide +kernel
theorem dX8_writeAddress_46 : decode cX8_writeAddress 46 = .ok (.lload_n 1, 1) := by decide +kernel
theorem dX8_writeAddress_47 : decode cX8_writeAddress 47 = .ok (.bipush 48, 2) := by decide +kernel
theorem dX8_writeAddress_49 : decode cX8_writeAddress 49 = .ok (.lushr, 1) := by decide +kernel
theorem dX8_writeAddress_50 : decode cX8_writeAddress 50 = .ok (.l2i, 1) := by decide +kernel
theorem dX8_writeAddress_51 : decode cX8_writeAddress 51 = .ok (.invokevirtual 53, 3) := by decide +kernel
theorem dX8_writeAddress_54 : decode cX8_writeAddress 54 = .ok (.aload 5, 2) := by decide +kernel
theorem dX8_writeAddress_56 : decode cX8_writeAddress 56 = .ok (.lload_n 3, 1) := by decide +kernel
theorem dX8_writeAddress_57 : decode cX8_writeAddress 57 = .ok (.iload 6, 2) := by decide +kernel
theorem dX8_writeAddress_59 : decode cX8_writeAddress 59 = .ok (.iconst 1, 1) := by decide +kernel
theorem dX8_writeAddress_60 : decode cX8_writeAddress 60 = .ok (.isub, 1) := by decide +kernel
theorem dX8_writeAddress_61 : decode cX8_writeAddress 61 = .ok (.invokevirtual 95, 3) := by decide +kernel
theorem dX8_writeAddress_64 : decode cX8_writeAddress 64 = .ok (.goto 11, 3) := by decide +kernel
theorem dX8_writeAddress_67 : decode cX8_writeAddress 67 = .ok (.aload 5, 2) := by decide +kernel
theorem dX8_writeAddress_69 : decode cX8_writeAddress 69 = .ok (.lload_n 3, 1) := by decide +kernel
theorem dX8_writeAddress_70 : decode cX8_writeAddress 70 = .ok (.iload 6, 2) := by decide +kernel
theorem dX8_writeAddress_72 : decode cX8_writeAddress 72 = .ok (.invokevirtual 95, 3) := by decide +kernel
theorem dX8_writeAddress_75 : decode cX8_writeAddress 75 = .ok (.return_, 1) := by decide +kernel
theorem dX8_writePorts_0 : decode cX8_writePorts 0 = .ok (.aload_n 0, 1) := by decide +kernel
theorem dX8_writePorts_1 : decode cX8_writePorts 1 = .ok (.bipush 40, 2) := by decide +kernel
theorem dX8_writePorts_3 : decode cX8_writePorts 3 = .ok (.iconst 2, 1) := by decide +kernel
theorem dX8_writePorts_4 : decode cX8_writePorts 4 = .ok (.invokevirtual 32, 3) := by decide +kernel
theorem dX8_writePorts_7 : decode cX8_writePorts 7 = .ok (.l2i, 1) := by decide +kernel
theorem dX8_writePorts_8 : decode cX8_writePorts 8 = .ok (.istore_n 2, 1) := by decide +kernel
theorem dX8_writePorts_9 : decode cX8_writePorts 9 = .ok (.aload_n 0, 1) := by decide +kernel
theorem dX8_writePorts_10 : decode cX8_writePorts 10 = .ok (.bipush 42, 2) := by decide +kernel
theorem dX8_writePorts_12 : decode cX8_writePorts 12 = .ok (.iconst 2, 1) := by decide +kernel
theorem dX8_writePorts_13 : decode cX8_writePorts 13 = .ok (.invokevirtual 32, 3) := by decide +kernel
theorem dX8_writePorts_16 : decode cX8_writePorts 16 = .ok (.l2i, 1) := by decide +kernel
theorem dX8_writePorts_17 : decode cX8_writePorts 17 = .ok (.istore_n 3, 1) := by decide +kernel
theorem dX8_writePorts_18 : decode cX8_writePorts 18 = .ok (.iload_n 2, 1) := by decide +kernel
theorem dX8_writePorts_19 : decode cX8_writePorts 19 = .ok (.iconst 4, 1) := by decide +kernel
theorem dX8_writePorts_20 : decode cX8_writePorts 20 = .ok (.ishr, 1) := by decide +kernel
theorem dX8_writePorts_21 : decode cX8_writePorts 21 = .ok (.sipush 3851, 3) := by decide +kernel
theorem dX8_writePorts_24 : decode cX8_writePorts 24 = .ok (.if_icmp .ne 37, 3) := by decide +kernel
theorem dX8_writePorts_27 : decode cX8_writePorts 27 = .ok (.iload_n 3, 1) := by decide +kernel
theorem dX8_writePorts_28 : decode cX8_writePorts 28 = .ok (.iconst 4, 1) := by decide +kernel
theorem dX8_writePorts_29 : decode cX8_writePorts 29 = .ok (.ishr, 1) := by decide +kernel
theorem dX8_writePorts_30 : decode cX8_writePorts 30 = .ok (.sipush 3851, 3) := by decide +kernel
theorem dX8_writePorts_33 : decode cX8_writePorts 33 = .ok (.if_icmp .ne 28, 3) := by decide +kernel
theorem dX8_writePorts_36 : decode cX8_writePorts 36 = .ok (.aload_n 1, 1) := by decide +kernel
theorem dX8_writePorts_37 : decode cX8_writePorts 37 = .ok (.sipush 243, 3) := by decide +kernel
theorem dX8_writePorts_40 : decode cX8_writePorts 40 = .ok (.invokevirtual 53, 3) := by decide +kernel
theorem dX8_writePorts_43 : decode cX8_writePorts 43 = .ok (.aload_n 1, 1) := by decide +kernel
theorem dX8_writePorts_44 : decode cX8_writePorts 44 = .ok (.iload_n 2, 1) := by decide +kernel
theorem dX8_writePorts_45 : decode cX8_writePorts 45 = .ok (.bipush 15, 2) := by decide +kernel
theorem dX8_writePorts_47 : decode cX8_writePorts 47 = .ok (.iand, 1) := by decide +kernel
theorem dX8_writePorts_48 : decode cX8_writePorts 48 = .ok (.iconst 4, 1) := by decide +kernel
theorem dX8_writePorts_49 : decode cX8_writePorts 49 = .ok (.ishl, 1) := by decide +kernel
theorem dX8_writePorts_50 : decode cX8_writePorts 50 = .ok (.iload_n 3, 1) := by decide +kernel
theorem dX8_writePorts_51 : decode cX8_writePorts 51 = .ok (.bipush 15, 2) := by decide +kernel
theorem dX8_writePorts_53 : decode cX8_writePorts 53 = .ok (.iand, 1) := by decide +kernel
theorem dX8_writePorts_54 : decode cX8_writePorts 54 = .ok (.ior, 1) := by decide +kernel
theorem dX8_writePorts_55 : decode cX8_writePorts 55 = .ok (.invokevirtual 53, 3) := by decide +kernel
theorem dX8_writePorts_58 : decode cX8_writePorts 58 = .ok (.goto 88, 3) := by decide +kernel
theorem dX8_writePorts_61 : decode cX8_writePorts 61 = .ok (.iload_n 3, 1) := by decide +kernel
theorem dX8_writePorts_62 : decode cX8_writePorts 62 = .ok (.bipush 8, 2) := by decide +kernel
theorem dX8_writePorts_64 : decode cX8_writePorts 64 = .ok (.ishr, 1) := by decide +kernel
theorem dX8_writePorts_65 : decode cX8_writePorts 65 = .ok (.sipush 240, 3) := by decide +kernel
theorem dX8_writePorts_68 : decode cX8_writePorts 68 = .ok (.if_icmp .ne 25, 3) := by decide +kernel
theorem dX8_writePorts_71 : decode cX8_writePorts 71 = .ok (.aload_n 1, 1) := by decide +kernel
theorem dX8_writePorts_72 : decode cX8_writePorts 72 = .ok (.sipush 241, 3) := by decide +kernel
theorem dX8_writePorts_75 : decode cX8_writePorts 75 = .ok (.invokevirtual 53, 3) := by decide +kernel
theorem dX8_writePorts_78 : decode cX8_writePorts 78 = .ok (.aload_n 1, 1) := by decide +kernel
theorem dX8_writePorts_79 : decode cX8_writePorts 79 = .ok (.iload_n 2, 1) := by decide +kernel
theorem dX8_writePorts_80 : decode cX8_writePorts 80 = .ok (.i2l, 1) := by decide +kernel
theorem dX8_writePorts_81 : decode cX8_writePorts 81 = .ok (.iconst 2, 1) := by decide +kernel
theorem dX8_writePorts_82 : decode cX8_writePorts 82 = .ok (.invokevirtual 95, 3) := by decide +kernel
theorem dX8_writePorts_85 : decode cX8_writePorts 85 = .ok (.aload_n 1, 1) := by decide +kernel
theorem dX8_writePorts_86 : decode cX8_writePorts 86 = .ok (.iload_n 3, 1) := by decide +kernel
theorem dX8_writePorts_87 : decode cX8_writePorts 87 = .ok (.invokevirtual 53, 3) := by decide +kernel
theorem dX8_writePorts_90 : decode cX8_writePorts 90 = .ok (.goto 56, 3) := by decide +kernel
theorem dX8_writePorts_93 : decode cX8_writePorts 93 = .ok (.iload_n 2, 1) := by decide +kernel
theorem dX8_writePorts_94 : decode cX8_writePorts 94 = .ok (.bipush 8, 2) := by decide +kernel
theorem dX8_writePorts_96 : decode cX8_writePorts 96 = .ok (.ishr, 1) := by decide +kernel
theorem dX8_writePorts_97 : decode cX8_writePorts 97 = .ok (.sipush 240, 3) := by decide +kernel
theorem dX8_writePorts_100 : decode cX8_writePorts 100 = .ok (.if_icmp .ne 25, 3) := by decide +kernel
theorem dX8_writePorts_103 : decode cX8_writePorts 103 = .ok (.aload_n 1, 1) := by decide +kernel
theorem dX8_writePorts_104 : decode cX8_writePorts 104 = .ok (.sipush 242, 3) := by decide +kernel
theorem dX8_writePorts_107 : decode cX8_writePorts 107 = .ok (.invokevirtual 53, 3) := by decide +kernel
theorem dX8_writePorts_110 : decode cX8_writePorts 110 = .ok (.aload_n 1, 1) := by decide +kernel
theorem dX8_writePorts_111 : decode cX8_writePorts 111 = .ok (.iload_n 2, 1) := by decide +kernel
theorem dX8_writePorts_112 : decode cX8_writePorts 112 = .ok (.invokevirtual 53, 3) := by decide +kernel
theorem dX8_writePorts_115 : decode cX8_writePorts 115 = .ok (.aload_n 1, 1) := by decide +kernel
theorem dX8_writePorts_116 : decode cX8_writePorts 116 = .ok (.iload_n 3, 1) := by decide +kernel
theorem dX8_writePorts_117 : decode cX8_writePorts 117 = .ok (.i2l, 1) := by decide +kernel
theorem dX8_writePorts_118 : decode cX8_writePorts 118 = .ok (.iconst 2, 1) := by decide +kernel
theorem dX8_writePorts_119 : decode cX8_writePorts 119 = .ok (.invokevirtual 95, 3) := by decide +kernel
theorem dX8_writePorts_122 : decode cX8_writePorts 122 = .ok (.goto 24, 3) := by decide +kernel
theorem dX8_writePorts_125 : decode cX8_writePorts 125 = .ok (.aload_n 1, 1) := by decide +kernel
theorem dX8_writePorts_126 : decode cX8_writePorts 126 = .ok (.sipush 240, 3) := by decide +kernel
theorem dX8_writePorts_129 : decode cX8_writePorts 129 = .ok (.invokevirtual 53, 3) := by decide +kernel
theorem dX8_writePorts_132 : decode cX8_writePorts 132 = .ok (.aload_n 1, 1) := by decide +kernel
theorem dX8_writePorts_133 : decode cX8_writePorts 133 = .ok (.iload_n 2, 1) := by decide +kernel
theorem dX8_writePorts_134 : decode cX8_writePorts 134 = .ok (.i2l, 1) := by decide +kernel
theorem dX8_writePorts_135 : decode cX8_writePorts 135 = .ok (.iconst 2, 1) := by decide +kernel
theorem dX8_writePorts_136 : decode cX8_writePorts 136 = .ok (.invokevirtual 95, 3) := by decide +kernel
theorem dX8_writePorts_139 : decode cX8_writePorts 139 = .ok (.aload_n 1, 1) := by decide +kernel
theorem dX8_writePorts_140 : decode cX8_writePorts 140 = .ok (.iload_n 3, 1) := by decide +kernel
theorem dX8_writePorts_141 : decode cX8_writePorts 141 = .ok (.i2l, 1) := by decide +kernel
theorem dX8_writePorts_142 : decode cX8_writePorts 142 = .ok (.iconst 2, 1) := by decide +kernel
theorem dX8_writePorts_143 : decode cX8_writePorts 143 = .ok (.invokevirtual 95, 3) := by decide +kernel
theorem dX8_writePorts_146 : decode cX8_writePorts 146 = .ok (.aload_n 1, 1) := by decide +kernel
theorem dX8_writePorts_147 : decode cX8_writePorts 147 = .ok (.aload_n 0, 1) := by decide +kernel
theorem dX8_writePorts_148 : decode cX8_writePorts 148 = .ok (.bipush 46, 2) := by decide +kernel
theorem dX8_writePorts_150 : decode cX8_writePorts 150 = .ok (.iconst 2, 1) := by decide +kernel
theorem dX8_writePorts_151 : decode cX8_writePorts 151 = .ok (.invokevirtual 32, 3) := by decide +kernel
theorem dX8_writePorts_154 : decode cX8_writePorts 154 = .ok (.iconst 2, 1) := by decide +kernel
theorem dX8_writePorts_155 : decode cX8_writePorts 155 = .ok (.invokevirtual 95, 3) := by decide +kernel
theorem dX8_writePorts_158 : decode cX8_writePorts 158 = .ok (.return_, 1) := by decide +kernel
theorem dX9_init_0 : decode cX9_init 0 = .ok (.aload_n 0, 1) := by decide +kernel
theorem dX9_init_1 : decode cX9_init 1 = .ok (.invokespecial 3, 3) := by decide +kernel
theorem dX9_init_4 : decode cX9_init 4 = .ok (.aload_n 0, 1) := by decide +kernel
theorem dX9_init_5 : decode cX9_init 5 = .ok (.new 9, 3) := by decide +kernel
theorem dX9_init_8 : decode cX9_init 8 = .ok (.dup, 1) := by decide +kernel
theorem dX9_init_9 : decode cX9_init 9 = .ok (.sipush 600, 3) := by decide +kernel
theorem dX9_init_12 : decode cX9_init 12 = .ok (.invokespecial 11, 3) := by decide +kernel
theorem dX9_init_15 : decode cX9_init 15 = .ok (.putfield 14, 3) := by decide +kernel
theorem dX9_init_18 : decode cX9_init 18 = .ok (.aload_n 0, 1) := by decide +kernel
theorem dX9_init_19 : decode cX9_init 19 = .ok (.aload_n 1, 1) := by decide +kernel
theorem dX9_init_20 : decode cX9_init 20 = .ok (.putfield 20, 3) := by decide +kernel
theorem dX9_init_23 : decode cX9_init 23 = .ok (.return_, 1) := by decide +kernel
theorem dX9_packet_0 : decode cX9_packet 0 = .ok (.aload_n 0, 1) := by decide +kernel
theorem dX9_packet_1 : decode cX9_packet 1 = .ok (.getfield 14, 3) := by decide +kernel
theorem dX9_packet_4 : decode cX9_packet 4 = .ok (.areturn, 1) := by decide +kernel
theorem dX9_fault_0 : decode cX9_fault 0 = .ok (.aload_n 0, 1) := by decide +kernel
theorem dX9_fault_1 : decode cX9_fault 1 = .ok (.getfield 24, 3) := by decide +kernel
theorem dX9_fault_4 : decode cX9_fault 4 = .ok (.ireturn, 1) := by decide +kernel
theorem dX9_tell_0 : decode cX9_tell 0 = .ok (.aload_n 1, 1) := by decide +kernel
theorem dX9_tell_1 : decode cX9_tell 1 = .ok (.arraylength, 1) := by decide +kernel
theorem dX9_tell_2 : decode cX9_tell 2 = .ok (.bipush 8, 2) := by decide +kernel
theorem dX9_tell_4 : decode cX9_tell 4 = .ok (.if_icmp .ge 4, 3) := by decide +kernel
theorem dX9_tell_7 : decode cX9_tell 7 = .ok (.return_, 1) := by decide +kernel
theorem dX9_tell_8 : decode cX9_tell 8 = .ok (.aload_n 0, 1) := by decide +kernel
theorem dX9_tell_9 : decode cX9_tell 9 = .ok (.getfield 24, 3) := by decide +kernel
theorem dX9_tell_12 : decode cX9_tell 12 = .ok (.ifCond .ne 7, 3) := by decide +kernel
theorem dX9_tell_15 : decode cX9_tell 15 = .ok (.iconst 1, 1) := by decide +kernel
theorem dX9_tell_16 : decode cX9_tell 16 = .ok (.goto 4, 3) := by decide +kernel
theorem dX9_tell_19 : decode cX9_tell 19 = .ok (.iconst 0, 1) := by decide +kernel
theorem dX9_tell_20 : decode cX9_tell 20 = .ok (.istore_n 2, 1) := by decide +kernel
theorem dX9_tell_21 : decode cX9_tell 21 = .ok (.aload_n 1, 1) := by decide +kernel
theorem dX9_tell_22 : decode cX9_tell 22 = .ok (.iconst 0, 1) := by decide +kernel
theorem dX9_tell_23 : decode cX9_tell 23 = .ok (.aload_n 0, 1) := by decide +kernel
theorem dX9_tell_24 : decode cX9_tell 24 = .ok (.getfield 24, 3) := by decide +kernel
theorem dX9_tell_27 : decode cX9_tell 27 = .ok (.iastore, 1) := by decide +kernel
theorem dX9_tell_28 : decode cX9_tell 28 = .ok (.aload_n 1, 1) := by decide +kernel
theorem dX9_tell_29 : decode cX9_tell 29 = .ok (.iconst 1, 1) := by decide +kernel
theorem dX9_tell_30 : decode cX9_tell 30 = .ok (.aload_n 0, 1) := by decide +kernel
theorem dX9_tell_31 : decode cX9_tell 31 = .ok (.getfield 28, 3) := by decide +kernel
theorem dX9_tell_34 : decode cX9_tell 34 = .ok (.iastore, 1) := by decide +kernel
theorem dX9_tell_35 : decode cX9_tell 35 = .ok (.aload_n 1, 1) := by decide +kernel
theorem dX9_tell_36 : decode cX9_tell 36 = .ok (.iconst 2, 1) := by decide +kernel
theorem dX9_tell_37 : decode cX9_tell 37 = .ok (.iload_n 2, 1) := by decide +kernel
theorem dX9_tell_38 : decode cX9_tell 38 = .ok (.ifCond .eq 10, 3) := by decide +kernel
theorem dX9_tell_41 : decode cX9_tell 41 = .ok (.aload_n 0, 1) := by decide +kernel
theorem dX9_tell_42 : decode cX9_tell 42 = .ok (.invokevirtual 31, 3) := by decide +kernel
theorem dX9_tell_45 : decode cX9_tell 45 = .ok (.goto 4, 3) := by decide +kernel
theorem dX9_tell_48 : decode cX9_tell 48 = .ok (.iconst 0, 1) := by decide +kernel
theorem dX9_tell_49 : decode cX9_tell 49 = .ok (.iastore, 1) := by decide +kernel
theorem dX9_tell_50 : decode cX9_tell 50 = .ok (.aload_n 1, 1) := by decide +kernel
theorem dX9_tell_51 : decode cX9_tell 51 = .ok (.iconst 3, 1) := by decide +kernel
theorem dX9_tell_52 : decode cX9_tell 52 = .ok (.iload_n 2, 1) := by decide +kernel
theorem dX9_tell_53 : decode cX9_tell 53 = .ok (.ifCond .eq 13, 3) := by decide +kernel
theorem dX9_tell_56 : decode cX9_tell 56 = .ok (.aload_n 0, 1) := by decide +kernel
theorem dX9_tell_57 : decode cX9_tell 57 = .ok (.getfield 35, 3) := by decide +kernel
theorem dX9_tell_60 : decode cX9_tell 60 = .ok (.bipush 7, 2) := by decide +kernel
theorem dX9_tell_62 : decode cX9_tell 62 = .ok (.ishr, 1) := by decide +kernel
theorem dX9_tell_63 : decode cX9_tell 63 = .ok (.goto 4, 3) := by decide +kernel
theorem dX9_tell_66 : decode cX9_tell 66 = .ok (.iconst 0, 1) := by decide +kernel
theorem dX9_tell_67 : decode cX9_tell 67 = .ok (.iastore, 1) := by decide +kernel
theorem dX9_tell_68 : decode cX9_tell 68 = .ok (.aload_n 1, 1) := by decide +kernel
theorem dX9_tell_69 : decode cX9_tell 69 = .ok (.iconst 4, 1) := by decide +kernel
theorem dX9_tell_70 : decode cX9_tell 70 = .ok (.iload_n 2, 1) := by decide +kernel
theorem dX9_tell_71 : decode cX9_tell 71 = .ok (.ifCond .eq 10, 3) := by decide +kernel
theorem dX9_tell_74 : decode cX9_tell 74 = .ok (.aload_n 0, 1) := by decide +kernel
theorem dX9_tell_75 : decode cX9_tell 75 = .ok (.invokevirtual 38, 3) := by decide +kernel
theorem dX9_tell_78 : decode cX9_tell 78 = .ok (.goto 4, 3) := by decide +kernel
theorem dX9_tell_81 : decode cX9_tell 81 = .ok (.iconst 0, 1) := by decide +kernel
theorem dX9_tell_82 : decode cX9_tell 82 = .ok (.iastore, 1) := by decide +kernel
theorem dX9_tell_83 : decode cX9_tell 83 = .ok (.aload_n 1, 1) := by decide +kernel
theorem dX9_tell_84 : decode cX9_tell 84 = .ok (.iconst 5, 1) := by decide +kernel
theorem dX9_tell_85 : decode cX9_tell 85 = .ok (.iload_n 2, 1) := by decide +kernel
theorem dX9_tell_86 : decode cX9_tell 86 = .ok (.ifCond .eq 10, 3) := by decide +kernel
theorem dX9_tell_89 : decode cX9_tell 89 = .ok (.aload_n 0, 1) := by decide +kernel
theorem dX9_tell_90 : decode cX9_tell 90 = .ok (.invokevirtual 41, 3) := by decide +kernel
theorem dX9_tell_93 : decode cX9_tell 93 = .ok (.goto 4, 3) := by decide +kernel
theorem dX9_tell_96 : decode cX9_tell 96 = .ok (.iconst 0, 1) := by decide +kernel
theorem dX9_tell_97 : decode cX9_tell 97 = .ok (.iastore, 1) := by decide +kernel
theorem dX9_tell_98 : decode cX9_tell 98 = .ok (.aload_n 1, 1) := by decide +kernel
theorem dX9_tell_99 : decode cX9_tell 99 = .ok (.bipush 6, 2) := by decide +kernel
theorem dX9_tell_101 : decode cX9_tell 101 = .ok (.iload_n 2, 1) := by decide +kernel
theorem dX9_tell_102 : decode cX9_tell 102 = .ok (.ifCond .eq 10, 3) := by decide +kernel
theorem dX9_tell_105 : decode cX9_tell 105 = .ok (.aload_n 0, 1) := by decide +kernel
theorem dX9_tell_106 : decode cX9_tell 106 = .ok (.getfield 44, 3) := by decide +kernel
theorem dX9_tell_109 : decode cX9_tell 109 = .ok (.goto 4, 3) := by decide +kernel
theorem dX9_tell_112 : decode cX9_tell 112 = .ok (.iconst 0, 1) := by decide +kernel
theorem dX9_tell_113 : decode cX9_tell 113 = .ok (.iastore, 1) := by decide +kernel
theorem dX9_tell_114 : decode cX9_tell 114 = .ok (.aload_n 1, 1) := by decide +kernel
theorem dX9_tell_115 : decode cX9_tell 115 = .ok (.bipush 7, 2) := by decide +kernel
theorem dX9_tell_117 : decode cX9_tell 117 = .ok (.iload_n 2, 1) := by decide +kernel
theorem dX9_tell_118 : decode cX9_tell 118 = .ok (.ifCond .eq 10, 3) := by decide +kernel
theorem dX9_tell_121 : decode cX9_tell 121 = .ok (.aload_n 0, 1) := by decide +kernel
theorem dX9_tell_122 : decode cX9_tell 122 = .ok (.getfield 47, 3) := by decide +kernel
theorem dX9_tell_125 : decode cX9_tell 125 = .ok (.goto 4, 3) := by decide +kernel
theorem dX9_tell_128 : decode cX9_tell 128 = .ok (.iconst 0, 1) := by decide +kernel
theorem dX9_tell_129 : decode cX9_tell 129 = .ok (.iastore, 1) := by decide +kernel
theorem dX9_tell_130 : decode cX9_tell 130 = .ok (.return_, 1) := by decide +kernel
theorem dX9_read_0 : decode cX9_read 0 = .ok (.aload_n 0, 1) := by decide +kernel
theorem dX9_read_1 : decode cX9_read 1 = .ok (.iload_n 2, 1) := by decide +kernel
theorem dX9_read_2 : decode cX9_read 2 = .ok (.putfield 50, 3) := by decide +kernel
theorem dX9_read_5 : decode cX9_read 5 = .ok (.aload_n 0, 1) := by decide +kernel
theorem dX9_read_6 : decode cX9_read 6 = .ok (.iconst 0, 1) := by decide +kernel
theorem dX9_read_7 : decode cX9_read 7 = .ok (.putfield 24, 3) := by decide +kernel
theorem dX9_read_10 : decode cX9_read 10 = .ok (.aload_n 0, 1) := by decide +kernel
theorem dX9_read_11 : decode cX9_read 11 = .ok (.iconst 0, 1) := by decide +kernel
theorem dX9_read_12 : decode cX9_read 12 = .ok (.putfield 28, 3) := by decide +kernel
theorem dX9_read_15 : decode cX9_read 15 = .ok (.aload_n 0, 1) := by decide +kernel
theorem dX9_read_16 : decode cX9_read 16 = .ok (.iconst 0, 1) := by decide +kernel
theorem dX9_read_17 : decode cX9_read 17 = .ok (.putfield 53, 3) := by decide +kernel
theorem dX9_read_20 : decode cX9_read 20 = .ok (.aload_n 0, 1) := by decide +kernel
theorem dX9_read_21 : decode cX9_read 21 = .ok (.bipush (-2), 2) := by decide +kernel
theorem dX9_read_23 : decode cX9_read 23 = .ok (.putfield 44, 3) := by decide +kernel
theorem dX9_read_26 : decode cX9_read 26 = .ok (.aload_n 0, 1) := by decide +kernel
theorem dX9_read_27 : decode cX9_read 27 = .ok (.getfield 14, 3) := by decide +kernel
theorem dX9_read_30 : decode cX9_read 30 = .ok (.bipush 40, 2) := by decide +kernel
theorem dX9_read_32 : decode cX9_read 32 = .ok (.invokevirtual 56, 3) := by decide +kernel
theorem dX9_read_35 : decode cX9_read 35 = .ok (.aload_n 0, 1) := by decide +kernel
theorem dX9_read_36 : decode cX9_read 36 = .ok (.aload_n 1, 1) := by decide +kernel
theorem dX9_read_37 : decode cX9_read 37 = .ok (.invokevirtual 59, 3) := by decide +kernel
theorem dX9_read_40 : decode cX9_read 40 = .ok (.ifCond .eq 75, 3) := by decide +kernel
theorem dX9_read_43 : decode cX9_read 43 = .ok (.aload_n 0, 1) := by decide +kernel
theorem dX9_read_44 : decode cX9_read 44 = .ok (.aload_n 1, 1) := by decide +kernel
theorem dX9_read_45 : decode cX9_read 45 = .ok (.invokevirtual 63, 3) := by decide +kernel
theorem dX9_read_48 : decode cX9_read 48 = .ok (.ifCond .eq 67, 3) := by decide +kernel
theorem dX9_read_51 : decode cX9_read 51 = .ok (.aload_n 0, 1) := by decide +kernel
theorem dX9_read_52 : decode cX9_read 52 = .ok (.aload_n 1, 1) := by decide +kernel
theorem dX9_read_53 : decode cX9_read 53 = .ok (.invokevirtual 66, 3) := by decide +kernel
theorem dX9_read_56 : decode cX9_read 56 = .ok (.ifCond .eq 59, 3) := by decide +kernel
theorem dX9_read_59 : decode cX9_read 59 = .ok (.aload_n 0, 1) := by decide +kernel
theorem dX9_read_60 : decode cX9_read 60 = .ok (.aload_n 1, 1) := by decide +kernel
theorem dX9_read_61 : decode cX9_read 61 = .ok (.invokevirtual 69, 3) := by decide +kernel
theorem dX9_read_64 : decode cX9_read 64 = .ok (.ifCond .eq 51, 3) := by decide +kernel
theorem dX9_read_67 : decode cX9_read 67 = .ok (.aload_n 0, 1) := by decide +kernel
theorem dX9_read_68 : decode cX9_read 68 = .ok (.aload_n 1, 1) := by decide +kernel
theorem dX9_read_69 : decode cX9_read 69 = .ok (.invokevirtual 72, 3) := by decide +kernel
theorem dX9_read_72 : decode cX9_read 72 = .ok (.ifCond .eq 43, 3) := by decide +kernel
theorem dX9_read_75 : decode cX9_read 75 = .ok (.aload_n 0, 1) := by decide +kernel
theorem dX9_read_76 : decode cX9_read 76 = .ok (.aload_n 1, 1) := by decide +kernel
theorem dX9_read_77 : decode cX9_read 77 = .ok (.aload_n 0, 1) := by decide +kernel
theorem dX9_read_78 : decode cX9_read 78 = .ok (.invokevirtual 38, 3) := by decide +kernel
theorem dX9_read_81 : decode cX9_read 81 = .ok (.bipush 8, 2) := by decide +kernel
theorem dX9_read_83 : decode cX9_read 83 = .ok (.invokevirtual 77, 3) := by decide +kernel
theorem dX9_read_86 : decode cX9_read 86 = .ok (.ifCond .eq 29, 3) := by decide +kernel
theorem dX9_read_89 : decode cX9_read 89 = .ok (.aload_n 0, 1) := by decide +kernel
theorem dX9_read_90 : decode cX9_read 90 = .ok (.aload_n 1, 1) := by decide +kernel
theorem dX9_read_91 : decode cX9_read 91 = .ok (.aload_n 0, 1) := by decide +kernel
theorem dX9_read_92 : decode cX9_read 92 = .ok (.invokevirtual 41, 3) := by decide +kernel
theorem dX9_read_95 : decode cX9_read 95 = .ok (.bipush 24, 2) := by decide +kernel
theorem dX9_read_97 : decode cX9_read 97 = .ok (.invokevirtual 77, 3) := by decide +kernel
theorem dX9_read_100 : decode cX9_read 100 = .ok (.ifCond .eq 15, 3) := by decide +kernel
theorem dX9_read_103 : decode cX9_read 103 = .ok (.aload_n 0, 1) := by decide +kernel
theorem dX9_read_104 : decode cX9_read 104 = .ok (.aload_n 1, 1) := by decide +kernel
theorem dX9_read_105 : decode cX9_read 105 = .ok (.invokevirtual 81, 3) := by decide +kernel
theorem dX9_read_108 : decode cX9_read 108 = .ok (.ifCond .eq 7, 3) := by decide +kernel
theorem dX9_read_111 : decode cX9_read 111 = .ok (.iconst 1, 1) := by decide +kernel
theorem dX9_read_112 : decode cX9_read 112 = .ok (.goto 4, 3) := by decide +kernel
theorem dX9_read_115 : decode cX9_read 115 = .ok (.iconst 0, 1) := by decide +kernel
theorem dX9_read_116 : decode cX9_read 116 = .ok (.istore 4, 2) := by decide +kernel
theorem dX9_read_118 : decode cX9_read 118 = .ok (.aload_n 0, 1) := by decide +kernel
theorem dX9_read_119 : decode cX9_read 119 = .ok (.aload_n 0, 1) := by decide +kernel
theorem dX9_read_120 : decode cX9_read 120 = .ok (.getfield 50, 3) := by decide +kernel
theorem dX9_read_123 : decode cX9_read 123 = .ok (.iload_n 2, 1) := by decide +kernel
theorem dX9_read_124 : decode cX9_read 124 = .ok (.isub, 1) := by decide +kernel
theorem dX9_read_125 : decode cX9_read 125 = .ok (.putfield 47, 3) := by decide +kernel
theorem dX9_read_128 : decode cX9_read 128 = .ok (.iload 4, 2) := by decide +kernel
theorem dX9_read_130 : decode cX9_read 130 = .ok (.ifCond .eq 16, 3) := by decide +kernel
theorem dX9_read_133 : decode cX9_read 133 = .ok (.aload_n 0, 1) := by decide +kernel
theorem dX9_read_134 : decode cX9_read 134 = .ok (.aload_n 1, 1) := by decide +kernel
theorem dX9_read_135 : decode cX9_read 135 = .ok (.iload_n 3, 1) := by decide +kernel
theorem dX9_read_136 : decode cX9_read 136 = .ok (.invokevirtual 84, 3) := by decide +kernel
theorem dX9_read_139 : decode cX9_read 139 = .ok (.ifCond .eq 7, 3) := by decide +kernel
theorem dX9_read_142 : decode cX9_read 142 = .ok (.iconst 1, 1) := by decide +kernel
theorem dX9_read_143 : decode cX9_read 143 = .ok (.goto 4, 3) := by decide +kernel
theorem dX9_read_146 : decode cX9_read 146 = .ok (.iconst 0, 1) := by decide +kernel
theorem dX9_read_147 : decode cX9_read 147 = .ok (.ireturn, 1) := by decide +kernel
theorem dX9_fails_0 : decode cX9_fails 0 = .ok (.aload_n 0, 1) := by decide +kernel
theorem dX9_fails_1 : decode cX9_fails 1 = .ok (.iload_n 1, 1) := by decide +kernel
theorem dX9_fails_2 : decode cX9_fails 2 = .ok (.putfield 24, 3) := by decide +kernel
theorem dX9_fails_5 : decode cX9_fails 5 = .ok (.aload_n 0, 1) := by decide +kernel
theorem dX9_fails_6 : decode cX9_fails 6 = .ok (.iload_n 2, 1) := by decide +kernel
theorem dX9_fails_7 : decode cX9_fails 7 = .ok (.putfield 28, 3) := by decide +kernel
theorem dX9_fails_10 : decode cX9_fails 10 = .ok (.iconst 0, 1) := by decide +kernel
theorem dX9_fails_11 : decode cX9_fails 11 = .ok (.ireturn, 1) := by decide +kernel
theorem dX9_has_0 : decode cX9_has 0 = .ok (.iload_n 2, 1) := by decide +kernel
theorem dX9_has_1 : decode cX9_has 1 = .ok (.aload_n 1, 1) := by decide +kernel
theorem dX9_has_2 : decode cX9_has 2 = .ok (.invokevirtual 88, 3) := by decide +kernel
theorem dX9_has_5 : decode cX9_has 5 = .ok (.aload_n 0, 1) := by decide +kernel
theorem dX9_has_6 : decode cX9_has 6 = .ok (.getfield 50, 3) := by decide +kernel
theorem dX9_has_9 : decode cX9_has 9 = .ok (.isub, 1) := by decide +kernel
theorem dX9_has_10 : decode cX9_has 10 = .ok (.if_icmp .le 15, 3) := by decide +kernel
theorem dX9_has_13 : decode cX9_has 13 = .ok (.aload_n 0, 1) := by decide +kernel
theorem dX9_has_14 : decode cX9_has 14 = .ok (.iconst 1, 1) := by decide +kernel
theorem dX9_has_15 : decode cX9_has 15 = .ok (.aload_n 1, 1) := by decide +kernel
theorem dX9_has_16 : decode cX9_has 16 = .ok (.invokevirtual 88, 3) := by decide +kernel
theorem dX9_has_19 : decode cX9_has 19 = .ok (.invokevirtual 91, 3) := by decide +kernel
theorem dX9_has_22 : decode cX9_has 22 = .ok (.ifCond .eq 7, 3) := by decide +kernel
theorem dX9_has_25 : decode cX9_has 25 = .ok (.iconst 1, 1) := by decide +kernel
theorem dX9_has_26 : decode cX9_has 26 = .ok (.goto 4, 3) := by decide +kernel
theorem dX9_has_29 : decode cX9_has 29 = .ok (.iconst 0, 1) := by decide +kernel
theorem dX9_has_30 : decode cX9_has 30 = .ok (.ireturn, 1) := by decide +kernel
theorem dX9_next_0 : decode cX9_next 0 = .ok (.aload_n 1, 1) := by decide +kernel
theorem dX9_next_1 : decode cX9_next 1 = .ok (.aload_n 0, 1) := by decide +kernel
theorem dX9_next_2 : decode cX9_next 2 = .ok (.getfield 50, 3) := by decide +kernel
theorem dX9_next_5 : decode cX9_next 5 = .ok (.invokevirtual 95, 3) := by decide +kernel
theorem dX9_next_8 : decode cX9_next 8 = .ok (.istore_n 2, 1) := by decide +kernel
theorem dX9_next_9 : decode cX9_next 9 = .ok (.aload_n 0, 1) := by decide +kernel
theorem dX9_next_10 : decode cX9_next 10 = .ok (.dup, 1) := by decide +kernel
theorem dX9_next_11 : decode cX9_next 11 = .ok (.getfield 50, 3) := by decide +kernel
theorem dX9_next_14 : decode cX9_next 14 = .ok (.iconst 1, 1) := by decide +kernel
theorem dX9_next_15 : decode cX9_next 15 = .ok (.iadd, 1) := by decide +kernel
theorem dX9_next_16 : decode cX9_next 16 = .ok (.putfield 50, 3) := by decide +kernel
theorem dX9_next_19 : decode cX9_next 19 = .ok (.iload_n 2, 1) := by decide +kernel
theorem dX9_next_20 : decode cX9_next 20 = .ok (.ireturn, 1) := by decide +kernel
theorem dX9_traffic_0 : decode cX9_traffic 0 = .ok (.aload_n 0, 1) := by decide +kernel
theorem dX9_traffic_1 : decode cX9_traffic 1 = .ok (.getfield 98, 3) := by decide +kernel
theorem dX9_traffic_4 : decode cX9_traffic 4 = .ok (.iconst 3, 1) := by decide +kernel
theorem dX9_traffic_5 : decode cX9_traffic 5 = .ok (.ishr, 1) := by decide +kernel
theorem dX9_traffic_6 : decode cX9_traffic 6 = .ok (.iconst 3, 1) := by decide +kernel
theorem dX9_traffic_7 : decode cX9_traffic 7 = .ok (.iand, 1) := by decide +kernel
theorem dX9_traffic_8 : decode cX9_traffic 8 = .ok (.ireturn, 1) := by decide +kernel
theorem dX9_ports_0 : decode cX9_ports 0 = .ok (.aload_n 0, 1) := by decide +kernel
theorem dX9_ports_1 : decode cX9_ports 1 = .ok (.getfield 98, 3) := by decide +kernel
theorem dX9_ports_4 : decode cX9_ports 4 = .ok (.iconst 4, 1) := by decide +kernel
theorem dX9_ports_5 : decode cX9_ports 5 = .ok (.iand, 1) := by decide +kernel
theorem dX9_ports_6 : decode cX9_ports 6 = .ok (.ifCond .eq 7, 3) := by decide +kernel
theorem dX9_ports_9 : decode cX9_ports 9 = .ok (.iconst 1, 1) := by decide +kernel
theorem dX9_ports_10 : decode cX9_ports 10 = .ok (.goto 4, 3) := by decide +kernel
theorem dX9_ports_13 : decode cX9_ports 13 = .ok (.iconst 0, 1) := by decide +kernel
theorem dX9_ports_14 : decode cX9_ports 14 = .ok (.ireturn, 1) := by decide +kernel
theorem dX9_source_0 : decode cX9_source 0 = .ok (.aload_n 0, 1) := by decide +kernel
theorem dX9_source_1 : decode cX9_source 1 = .ok (.getfield 35, 3) := by decide +kernel
theorem dX9_source_4 : decode cX9_source 4 = .ok (.iconst 4, 1) := by decide +kernel
theorem dX9_source_5 : decode cX9_source 5 = .ok (.ishr, 1) := by decide +kernel
theorem dX9_source_6 : decode cX9_source 6 = .ok (.bipush 7, 2) := by decide +kernel
theorem dX9_source_8 : decode cX9_source 8 = .ok (.iand, 1) := by decide +kernel
theorem dX9_source_9 : decode cX9_source 9 = .ok (.ireturn, 1) := by decide +kernel
theorem dX9_goal_0 : decode cX9_goal 0 = .ok (.aload_n 0, 1) := by decide +kernel
theorem dX9_goal_1 : decode cX9_goal 1 = .ok (.getfield 35, 3) := by decide +kernel
theorem dX9_goal_4 : decode cX9_goal 4 = .ok (.bipush 15, 2) := by decide +kernel
theorem dX9_goal_6 : decode cX9_goal 6 = .ok (.iand, 1) := by decide +kernel
theorem dX9_goal_7 : decode cX9_goal 7 = .ok (.ireturn, 1) := by decide +kernel
theorem dX9_readsForm_0 : decode cX9_readsForm 0 = .ok (.aload_n 0, 1) := by decide +kernel
theorem dX9_readsForm_1 : decode cX9_readsForm 1 = .ok (.aload_n 1, 1) := by decide +kernel
theorem dX9_readsForm_2 : decode cX9_readsForm 2 = .ok (.iconst 1, 1) := by decide +kernel
theorem dX9_readsForm_3 : decode cX9_readsForm 3 = .ok (.invokevirtual 101, 3) := by decide +kernel
theorem dX9_readsForm_6 : decode cX9_readsForm 6 = .ok (.ifCond .ne 5, 3) := by decide +kernel
theorem dX9_readsForm_9 : decode cX9_readsForm 9 = .ok (.iconst 0, 1) := by decide +kernel
theorem dX9_readsForm_10 : decode cX9_readsForm 10 = .ok (.ireturn, 1) := by decide +kernel
theorem dX9_readsForm_11 : decode cX9_readsForm 11 = .ok (.aload_n 1, 1) := by decide +kernel
theorem dX9_readsForm_12 : decode cX9_readsForm 12 = .ok (.aload_n 0, 1) := by decide +kernel
theorem dX9_readsForm_13 : decode cX9_readsForm 13 = .ok (.getfield 50, 3) := by decide +kernel
theorem dX9_readsForm_16 : decode cX9_readsForm 16 = .ok (.invokevirtual 95, 3) := by decide +kernel
theorem dX9_readsForm_19 : decode cX9_readsForm 19 = .ok (.iconst 5, 1) := by decide +kernel
theorem dX9_readsForm_20 : decode cX9_readsForm 20 = .ok (.ishr, 1) := by decide +kernel
theorem dX9_readsForm_21 : decode cX9_readsForm 21 = .ok (.iconst 3, 1) := by decide +kernel
theorem dX9_readsForm_22 : decode cX9_readsForm 22 = .ok (.if_icmp .eq 13, 3) := by decide +kernel
theorem dX9_readsForm_25 : decode cX9_readsForm 25 = .ok (.aload_n 0, 1) := by decide +kernel
theorem dX9_readsForm_26 : decode cX9_readsForm 26 = .ok (.iconst 2, 1) := by decide +kernel
theorem dX9_readsForm_27 : decode cX9_readsForm 27 = .ok (.aload_n 0, 1) := by decide +kernel
theorem dX9_readsForm_28 : decode cX9_readsForm 28 = .ok (.getfield 50, 3) := by decide +kernel
theorem dX9_readsForm_31 : decode cX9_readsForm 31 = .ok (.invokevirtual 91, 3) := by decide +kernel
theorem dX9_readsForm_34 : decode cX9_readsForm 34 = .ok (.ireturn, 1) := by decide +kernel
theorem dX9_readsForm_35 : decode cX9_readsForm 35 = .ok (.aload_n 0, 1) := by decide +kernel
theorem dX9_readsForm_36 : decode cX9_readsForm 36 = .ok (.aload_n 0, 1) := by decide +kernel
theorem dX9_readsForm_37 : decode cX9_readsForm 37 = .ok (.aload_n 1, 1) := by decide +kernel
theorem dX9_readsForm_38 : decode cX9_readsForm 38 = .ok (.invokevirtual 104, 3) := by decide +kernel
theorem dX9_readsForm_41 : decode cX9_readsForm 41 = .ok (.putfield 98, 3) := by decide +kernel
theorem dX9_readsForm_44 : decode cX9_readsForm 44 = .ok (.aload_n 0, 1) := by decide +kernel
theorem dX9_readsForm_45 : decode cX9_readsForm 45 = .ok (.aload_n 1, 1) := by decide +kernel
theorem dX9_readsForm_46 : decode cX9_readsForm 46 = .ok (.iconst 1, 1) := by decide +kernel
theorem dX9_readsForm_47 : decode cX9_readsForm 47 = .ok (.invokevirtual 101, 3) := by decide +kernel
theorem dX9_readsForm_50 : decode cX9_readsForm 50 = .ok (.ifCond .ne 5, 3) := by decide +kernel
theorem dX9_readsForm_53 : decode cX9_readsForm 53 = .ok (.iconst 0, 1) := by decide +kernel
theorem dX9_readsForm_54 : decode cX9_readsForm 54 = .ok (.ireturn, 1) := by decide +kernel
theorem dX9_readsForm_55 : decode cX9_readsForm 55 = .ok (.aload_n 0, 1) := by decide +kernel
theorem dX9_readsForm_56 : decode cX9_readsForm 56 = .ok (.aload_n 1, 1) := by decide +kernel
theorem dX9_readsForm_57 : decode cX9_readsForm 57 = .ok (.aload_n 0, 1) := by decide +kernel
theorem dX9_readsForm_58 : decode cX9_readsForm 58 = .ok (.getfield 50, 3) := by decide +kernel
theorem dX9_readsForm_61 : decode cX9_readsForm 61 = .ok (.invokevirtual 95, 3) := by decide +kernel
theorem dX9_readsForm_64 : decode cX9_readsForm 64 = .ok (.putfield 35, 3) := by decide +kernel
theorem dX9_readsForm_67 : decode cX9_readsForm 67 = .ok (.aload_n 0, 1) := by decide +kernel
theorem dX9_readsForm_68 : decode cX9_readsForm 68 = .ok (.invokevirtual 41, 3) := by decide +kernel
theorem dX9_readsForm_71 : decode cX9_readsForm 71 = .ok (.iconst 4, 1) := by decide +kernel
theorem dX9_readsForm_72 : decode cX9_readsForm 72 = .ok (.if_icmp .eq 12, 3) := by decide +kernel
theorem dX9_readsForm_75 : decode cX9_readsForm 75 = .ok (.aload_n 0, 1) := by decide +kernel
theorem dX9_readsForm_76 : decode cX9_readsForm 76 = .ok (.invokevirtual 41, 3) := by decide +kernel
theorem dX9_readsForm_79 : decode cX9_readsForm 79 = .ok (.bipush 11, 2) := by decide +kernel
theorem dX9_readsForm_81 : decode cX9_readsForm 81 = .ok (.if_icmp .le 13, 3) := by decide +kernel
theorem dX9_readsForm_84 : decode cX9_readsForm 84 = .ok (.aload_n 0, 1) := by decide +kernel
theorem dX9_readsForm_85 : decode cX9_readsForm 85 = .ok (.iconst 3, 1) := by decide +kernel
theorem dX9_readsForm_86 : decode cX9_readsForm 86 = .ok (.aload_n 0, 1) := by decide +kernel
theorem dX9_readsForm_87 : decode cX9_readsForm 87 = .ok (.getfield 50, 3) := by decide +kernel
theorem dX9_readsForm_90 : decode cX9_readsForm 90 = .ok (.invokevirtual 91, 3) := by decide +kernel
theorem dX9_readsForm_93 : decode cX9_readsForm 93 = .ok (.ireturn, 1) := by decide +kernel
theorem dX9_readsForm_94 : decode cX9_readsForm 94 = .ok (.aload_n 0, 1) := by decide +kernel
theorem dX9_readsForm_95 : decode cX9_readsForm 95 = .ok (.dup, 1) := by decide +kernel
theorem dX9_readsForm_96 : decode cX9_readsForm 96 = .ok (.getfield 50, 3) := by decide +kernel
theorem dX9_readsForm_99 : decode cX9_readsForm 99 = .ok (.iconst 1, 1) := by decide +kernel
theorem dX9_readsForm_100 : decode cX9_readsForm 100 = .ok (.iadd, 1) := by decide +kernel
theorem dX9_readsForm_101 : decode cX9_readsForm 101 = .ok (.putfield 50, 3) := by decide +kernel
theorem dX9_readsForm_104 : decode cX9_readsForm 104 = .ok (.iconst 1, 1) := by decide +kernel
theorem dX9_readsForm_105 : decode cX9_readsForm 105 = .ok (.ireturn, 1) := by decide +kernel
theorem dX9_readsContexts_0 : decode cX9_readsContexts 0 = .ok (.aload_n 0, 1) := by decide +kernel
theorem dX9_readsContexts_1 : decode cX9_readsContexts 1 = .ok (.getfield 50, 3) := by decide +kernel
theorem dX9_readsContexts_4 : decode cX9_readsContexts 4 = .ok (.iconst 1, 1) := by decide +kernel
theorem dX9_readsContexts_5 : decode cX9_readsContexts 5 = .ok (.isub, 1) := by decide +kernel
theorem dX9_readsContexts_6 : decode cX9_readsContexts 6 = .ok (.istore_n 2, 1) := by decide +kernel
theorem dX9_readsContexts_7 : decode cX9_readsContexts 7 = .ok (.aload_n 0, 1) := by decide +kernel
theorem dX9_readsContexts_8 : decode cX9_readsContexts 8 = .ok (.getfield 35, 3) := by decide +kernel
theorem dX9_readsContexts_11 : decode cX9_readsContexts 11 = .ok (.bipush 7, 2) := by decide +kernel
theorem dX9_readsContexts_13 : decode cX9_readsContexts 13 = .ok (.ishr, 1) := by decide +kernel
theorem dX9_readsContexts_14 : decode cX9_readsContexts 14 = .ok (.iconst 1, 1) := by decide +kernel
theorem dX9_readsContexts_15 : decode cX9_readsContexts 15 = .ok (.if_icmp .ne 28, 3) := by decide +kernel
theorem dX9_readsContexts_18 : decode cX9_readsContexts 18 = .ok (.aload_n 0, 1) := by decide +kernel
theorem dX9_readsContexts_19 : decode cX9_readsContexts 19 = .ok (.aload_n 1, 1) := by decide +kernel
theorem dX9_readsContexts_20 : decode cX9_readsContexts 20 = .ok (.iconst 1, 1) := by decide +kernel
theorem dX9_readsContexts_21 : decode cX9_readsContexts 21 = .ok (.invokevirtual 101, 3) := by decide +kernel
theorem dX9_readsContexts_24 : decode cX9_readsContexts 24 = .ok (.ifCond .ne 5, 3) := by decide +kernel
theorem dX9_readsContexts_27 : decode cX9_readsContexts 27 = .ok (.iconst 0, 1) := by decide +kernel
theorem dX9_readsContexts_28 : decode cX9_readsContexts 28 = .ok (.ireturn, 1) := by decide +kernel
theorem dX9_readsContexts_29 : decode cX9_readsContexts 29 = .ok (.aload_n 0, 1) := by decide +kernel
theorem dX9_readsContexts_30 : decode cX9_readsContexts 30 = .ok (.getfield 50, 3) := by decide +kernel
theorem dX9_readsContexts_33 : decode cX9_readsContexts 33 = .ok (.istore_n 2, 1) := by decide +kernel
theorem dX9_readsContexts_34 : decode cX9_readsContexts 34 = .ok (.aload_n 0, 1) := by decide +kernel
theorem dX9_readsContexts_35 : decode cX9_readsContexts 35 = .ok (.aload_n 0, 1) := by decide +kernel
theorem dX9_readsContexts_36 : decode cX9_readsContexts 36 = .ok (.aload_n 1, 1) := by decide +kernel
theorem dX9_readsContexts_37 : decode cX9_readsContexts 37 = .ok (.invokevirtual 104, 3) := by decide +kernel
theorem dX9_readsContexts_40 : decode cX9_readsContexts 40 = .ok (.putfield 53, 3) := by decide +kernel
theorem dX9_readsContexts_43 : decode cX9_readsContexts 43 = .ok (.aload_n 0, 1) := by decide +kernel
theorem dX9_readsContexts_44 : decode cX9_readsContexts 44 = .ok (.invokevirtual 38, 3) := by decide +kernel
theorem dX9_readsContexts_47 : decode cX9_readsContexts 47 = .ok (.invokestatic 110, 3) := by decide +kernel
theorem dX9_readsContexts_50 : decode cX9_readsContexts 50 = .ok (.ifCond .eq 23, 3) := by decide +kernel
theorem dX9_readsContexts_53 : decode cX9_readsContexts 53 = .ok (.aload_n 0, 1) := by decide +kernel
theorem dX9_readsContexts_54 : decode cX9_readsContexts 54 = .ok (.getfield 20, 3) := by decide +kernel
theorem dX9_readsContexts_57 : decode cX9_readsContexts 57 = .ok (.aload_n 0, 1) := by decide +kernel
theorem dX9_readsContexts_58 : decode cX9_readsContexts 58 = .ok (.getfield 53, 3) := by decide +kernel
theorem dX9_readsContexts_61 : decode cX9_readsContexts 61 = .ok (.iconst 4, 1) := by decide +kernel
theorem dX9_readsContexts_62 : decode cX9_readsContexts 62 = .ok (.ishr, 1) := by decide +kernel
theorem dX9_readsContexts_63 : decode cX9_readsContexts 63 = .ok (.invokevirtual 114, 3) := by decide +kernel
theorem dX9_readsContexts_66 : decode cX9_readsContexts 66 = .ok (.ifCond .ne 7, 3) := by decide +kernel
theorem dX9_readsContexts_69 : decode cX9_readsContexts 69 = .ok (.iconst 1, 1) := by decide +kernel
theorem dX9_readsContexts_70 : decode cX9_readsContexts 70 = .ok (.goto 4, 3) := by decide +kernel
theorem dX9_readsContexts_73 : decode cX9_readsContexts 73 = .ok (.iconst 0, 1) := by decide +kernel
theorem dX9_readsContexts_74 : decode cX9_readsContexts 74 = .ok (.istore_n 3, 1) := by decide +kernel
theorem dX9_readsContexts_75 : decode cX9_readsContexts 75 = .ok (.aload_n 0, 1) := by decide +kernel
theorem dX9_readsContexts_76 : decode cX9_readsContexts 76 = .ok (.invokevirtual 41, 3) := by decide +kernel
theorem dX9_readsContexts_79 : decode cX9_readsContexts 79 = .ok (.invokestatic 110, 3) := by decide +kernel
theorem dX9_readsContexts_82 : decode cX9_readsContexts 82 = .ok (.ifCond .eq 24, 3) := by decide +kernel
theorem dX9_readsContexts_85 : decode cX9_readsContexts 85 = .ok (.aload_n 0, 1) := by decide +kernel
theorem dX9_readsContexts_86 : decode cX9_readsContexts 86 = .ok (.getfield 20, 3) := by decide +kernel
theorem dX9_readsContexts_89 : decode cX9_readsContexts 89 = .ok (.aload_n 0, 1) := by decide +kernel
theorem dX9_readsContexts_90 : decode cX9_readsContexts 90 = .ok (.getfield 53, 3) := by decide +kernel
theorem dX9_readsContexts_93 : decode cX9_readsContexts 93 = .ok (.bipush 15, 2) := by decide +kernel
theorem dX9_readsContexts_95 : decode cX9_readsContexts 95 = .ok (.iand, 1) := by decide +kernel
theorem dX9_readsContexts_96 : decode cX9_readsContexts 96 = .ok (.invokevirtual 114, 3) := by decide +kernel
theorem dX9_readsContexts_99 : decode cX9_readsContexts 99 = .ok (.ifCond .ne 7, 3) := by decide +kernel
theorem dX9_readsContexts_102 : decode cX9_readsContexts 102 = .ok (.iconst 1, 1) := by decide +kernel
theorem dX9_readsContexts_103 : decode cX9_readsContexts 103 = .ok (.goto 4, 3) := by decide +kernel
theorem dX9_readsContexts_106 : decode cX9_readsContexts 106 = .ok (.iconst 0, 1) := by decide +kernel
theorem dX9_readsContexts_107 : decode cX9_readsContexts 107 = .ok (.istore 4, 2) := by decide +kernel
theorem dX9_readsContexts_109 : decode cX9_readsContexts 109 = .ok (.iload_n 3, 1) := by decide +kernel
theorem dX9_readsContexts_110 : decode cX9_readsContexts 110 = .ok (.ifCond .ne 8, 3) := by decide +kernel
theorem dX9_readsContexts_113 : decode cX9_readsContexts 113 = .ok (.iload 4, 2) := by decide +kernel
theorem dX9_readsContexts_115 : decode cX9_readsContexts 115 = .ok (.ifCond .eq 12, 3) := by decide +kernel
theorem dX9_readsContexts_118 : decode cX9_readsContexts 118 = .ok (.aload_n 0, 1) := by decide +kernel
theorem dX9_readsContexts_119 : decode cX9_readsContexts 119 = .ok (.iconst 4, 1) := by decide +kernel
theorem dX9_readsContexts_120 : decode cX9_readsContexts 120 = .ok (.iload_n 2, 1) := by decide +kernel
theorem dX9_readsContexts_121 : decode cX9_readsContexts 121 = .ok (.invokevirtual 91, 3) := by decide +kernel
theorem dX9_readsContexts_124 : decode cX9_readsContexts 124 = .ok (.ifCond .eq 7, 3) := by decide +kernel
theorem dX9_readsContexts_127 : decode cX9_readsContexts 127 = .ok (.iconst 1, 1) := by decide +kernel
theorem dX9_readsContexts_128 : decode cX9_readsContexts 128 = .ok (.goto 4, 3) := by decide +kernel
theorem dX9_readsContexts_131 : decode cX9_readsContexts 131 = .ok (.iconst 0, 1) := by decide +kernel
theorem dX9_readsContexts_132 : decode cX9_readsContexts 132 = .ok (.ireturn, 1) := by decide +kernel
theorem dX9_readsTraffic_0 : decode cX9_readsTraffic 0 = .ok (.aload_n 0, 1) := by decide +kernel
theorem dX9_readsTraffic_1 : decode cX9_readsTraffic 1 = .ok (.invokevirtual 31, 3) := by decide +kernel
theorem dX9_readsTraffic_4 : decode cX9_readsTraffic 4 = .ok (.istore_n 2, 1) := by decide +kernel
theorem dX9_readsTraffic_5 : decode cX9_readsTraffic 5 = .ok (.iload_n 2, 1) := by decide +kernel
theorem dX9_readsTraffic_6 : decode cX9_readsTraffic 6 = .ok (.ifCond .ne 7, 3) := by decide +kernel
theorem dX9_readsTraffic_9 : decode cX9_readsTraffic 9 = .ok (.iconst 4, 1) := by decide +kernel
theorem dX9_readsTraffic_10 : decode cX9_readsTraffic 10 = .ok (.goto 22, 3) := by decide +kernel
theorem dX9_readsTraffic_13 : decode cX9_readsTraffic 13 = .ok (.iload_n 2, 1) := by decide +kernel
theorem dX9_readsTraffic_14 : decode cX9_readsTraffic 14 = .ok (.iconst 1, 1) := by decide +kernel
theorem dX9_readsTraffic_15 : decode cX9_readsTraffic 15 = .ok (.if_icmp .ne 7, 3) := by decide +kernel
theorem dX9_readsTraffic_18 : decode cX9_readsTraffic 18 = .ok (.iconst 3, 1) := by decide +kernel
theorem dX9_readsTraffic_19 : decode cX9_readsTraffic 19 = .ok (.goto 13, 3) := by decide +kernel
theorem dX9_readsTraffic_22 : decode cX9_readsTraffic 22 = .ok (.iload_n 2, 1) := by decide +kernel
theorem dX9_readsTraffic_23 : decode cX9_readsTraffic 23 = .ok (.iconst 2, 1) := by decide +kernel
theorem dX9_readsTraffic_24 : decode cX9_readsTraffic 24 = .ok (.if_icmp .ne 7, 3) := by decide +kernel
theorem dX9_readsTraffic_27 : decode cX9_readsTraffic 27 = .ok (.iconst 1, 1) := by decide +kernel
theorem dX9_readsTraffic_28 : decode cX9_readsTraffic 28 = .ok (.goto 4, 3) := by decide +kernel
theorem dX9_readsTraffic_31 : decode cX9_readsTraffic 31 = .ok (.iconst 0, 1) := by decide +kernel
theorem dX9_readsTraffic_32 : decode cX9_readsTraffic 32 = .ok (.istore_n 3, 1) := by decide +kernel
theorem dX9_readsTraffic_33 : decode cX9_readsTraffic 33 = .ok (.aload_n 0, 1) := by decide +kernel
theorem dX9_readsTraffic_34 : decode cX9_readsTraffic 34 = .ok (.aload_n 1, 1) := by decide +kernel
theorem dX9_readsTraffic_35 : decode cX9_readsTraffic 35 = .ok (.iload_n 3, 1) := by decide +kernel
theorem dX9_readsTraffic_36 : decode cX9_readsTraffic 36 = .ok (.invokevirtual 101, 3) := by decide +kernel
theorem dX9_readsTraffic_39 : decode cX9_readsTraffic 39 = .ok (.ifCond .ne 5, 3) := by decide +kernel
theorem dX9_readsTraffic_42 : decode cX9_readsTraffic 42 = .ok (.iconst 0, 1) := by decide +kernel
theorem dX9_readsTraffic_43 : decode cX9_readsTraffic 43 = .ok (.ireturn, 1) := by decide +kernel
theorem dX9_readsTraffic_44 : decode cX9_readsTraffic 44 = .ok (.iload_n 3, 1) := by decide +kernel
theorem dX9_readsTraffic_45 : decode cX9_readsTraffic 45 = .ok (.ifCond .ne 7, 3) := by decide +kernel
theorem dX9_readsTraffic_48 : decode cX9_readsTraffic 48 = .ok (.iconst 0, 1) := by decide +kernel
theorem dX9_readsTraffic_49 : decode cX9_readsTraffic 49 = .ok (.goto 11, 3) := by decide +kernel
theorem dX9_readsTraffic_52 : decode cX9_readsTraffic 52 = .ok (.aload_n 1, 1) := by decide +kernel
theorem dX9_readsTraffic_53 : decode cX9_readsTraffic 53 = .ok (.aload_n 0, 1) := by decide +kernel
theorem dX9_readsTraffic_54 : decode cX9_readsTraffic 54 = .ok (.getfield 50, 3) := by decide +kernel
theorem dX9_readsTraffic_57 : decode cX9_readsTraffic 57 = .ok (.invokevirtual 95, 3) := by decide +kernel
theorem dX9_readsTraffic_60 : decode cX9_readsTraffic 60 = .ok (.istore 4, 2) := by decide +kernel
theorem dX9_readsTraffic_62 : decode cX9_readsTraffic 62 = .ok (.lconst 0, 1) := by decide +kernel
theorem dX9_readsTraffic_63 : decode cX9_readsTraffic 63 = .ok (.lstore 5, 2) := by decide +kernel
theorem dX9_readsTraffic_65 : decode cX9_readsTraffic 65 = .ok (.iconst 0, 1) := by decide +kernel
theorem dX9_readsTraffic_66 : decode cX9_readsTraffic 66 = .ok (.istore 7, 2) := by decide +kernel
theorem dX9_readsTraffic_68 : decode cX9_readsTraffic 68 = .ok (.iload_n 2, 1) := by decide +kernel
theorem dX9_readsTraffic_69 : decode cX9_readsTraffic 69 = .ok (.ifCond .ne 27, 3) := by decide +kernel
theorem dX9_readsTraffic_72 : decode cX9_readsTraffic 72 = .ok (.aload_n 1, 1) := by decide +kernel
theorem dX9_readsTraffic_73 : decode cX9_readsTraffic 73 = .ok (.aload_n 0, 1) := by decide +kernel
theorem dX9_readsTraffic_74 : decode cX9_readsTraffic 74 = .ok (.getfield 50, 3) := by decide +kernel
theorem dX9_readsTraffic_77 : decode cX9_readsTraffic 77 = .ok (.iconst 1, 1) := by decide +kernel
theorem dX9_readsTraffic_78 : decode cX9_readsTraffic 78 = .ok (.iadd, 1) := by decide +kernel
theorem dX9_readsTraffic_79 : decode cX9_readsTraffic 79 = .ok (.iconst 3, 1) := by decide +kernel
theorem dX9_readsTraffic_80 : decode cX9_readsTraffic 80 = .ok (.invokevirtual 119, 3) := by decide +kernel
theorem dX9_readsTraffic_83 : decode cX9_readsTraffic 83 = .ok (.lstore 5, 2) := by decide +kernel
theorem dX9_readsTraffic_85 : decode cX9_readsTraffic 85 = .ok (.lload 5, 2) := by decide +kernel
theorem dX9_readsTraffic_87 : decode cX9_readsTraffic 87 = .ok (.bipush 20, 2) := by decide +kernel
theorem dX9_readsTraffic_89 : decode cX9_readsTraffic 89 = .ok (.lushr, 1) := by decide +kernel
theorem dX9_readsTraffic_90 : decode cX9_readsTraffic 90 = .ok (.l2i, 1) := by decide +kernel
theorem dX9_readsTraffic_91 : decode cX9_readsTraffic 91 = .ok (.istore 7, 2) := by decide +kernel
theorem dX9_readsTraffic_93 : decode cX9_readsTraffic 93 = .ok (.goto 30, 3) := by decide +kernel
theorem dX9_readsTraffic_96 : decode cX9_readsTraffic 96 = .ok (.iload_n 2, 1) := by decide +kernel
theorem dX9_readsTraffic_97 : decode cX9_readsTraffic 97 = .ok (.iconst 1, 1) := by decide +kernel
theorem dX9_readsTraffic_98 : decode cX9_readsTraffic 98 = .ok (.if_icmp .ne 25, 3) := by decide +kernel
theorem dX9_readsTraffic_101 : decode cX9_readsTraffic 101 = .ok (.aload_n 1, 1) := by decide +kernel
theorem dX9_readsTraffic_102 : decode cX9_readsTraffic 102 = .ok (.aload_n 0, 1) := by decide +kernel
theorem dX9_readsTraffic_103 : decode cX9_readsTraffic 103 = .ok (.getfield 50, 3) := by decide +kernel
theorem dX9_readsTraffic_106 : decode cX9_readsTraffic 106 = .ok (.iconst 3, 1) := by decide +kernel
theorem dX9_readsTraffic_107 : decode cX9_readsTraffic 107 = .ok (.invokevirtual 119, 3) := by decide +kernel
theorem dX9_readsTraffic_110 : decode cX9_readsTraffic 110 = .ok (.ldc2_w 123, 3) := by decide +kernel
theorem dX9_readsTraffic_113 : decode cX9_readsTraffic 113 = .ok (.land, 1) := by decide +kernel
theorem dX9_readsTraffic_114 : decode cX9_readsTraffic 114 = .ok (.lstore 5, 2) := by decide +kernel
theorem dX9_readsTraffic_116 : decode cX9_readsTraffic 116 = .ok (.iload 4, 2) := by decide +kernel
theorem dX9_readsTraffic_118 : decode cX9_readsTraffic 118 = .ok (.bipush 48, 2) := by decide +kernel
theorem dX9_readsTraffic_120 : decode cX9_readsTraffic 120 = .ok (.iand, 1) := by decide +kernel
theorem dX9_readsTraffic_121 : decode cX9_readsTraffic 121 = .ok (.istore 7, 2) := by decide +kernel
theorem dX9_readsTraffic_123 : decode cX9_readsTraffic 123 = .ok (.iload 7, 2) := by decide +kernel
theorem dX9_readsTraffic_125 : decode cX9_readsTraffic 125 = .ok (.ifCond .eq 13, 3) := by decide +kernel
theorem dX9_readsTraffic_128 : decode cX9_readsTraffic 128 = .ok (.aload_n 0, 1) := by decide +kernel
theorem dX9_readsTraffic_129 : decode cX9_readsTraffic 129 = .ok (.iconst 5, 1) := by decide +kernel
theorem dX9_readsTraffic_130 : decode cX9_readsTraffic 130 = .ok (.aload_n 0, 1) := by decide +kernel
theorem dX9_readsTraffic_131 : decode cX9_readsTraffic 131 = .ok (.getfield 50, 3) := by decide +kernel
theorem dX9_readsTraffic_134 : decode cX9_readsTraffic 134 = .ok (.invokevirtual 91, 3) := by decide +kernel
theorem dX9_readsTraffic_137 : decode cX9_readsTraffic 137 = .ok (.ireturn, 1) := by decide +kernel
theorem dX9_readsTraffic_138 : decode cX9_readsTraffic 138 = .ok (.iload_n 2, 1) := by decide +kernel
theorem dX9_readsTraffic_139 : decode cX9_readsTraffic 139 = .ok (.iconst 1, 1) := by decide +kernel
theorem dX9_readsTraffic_140 : decode cX9_readsTraffic 140 = .ok (.if_icmp .ne 7, 3) := by decide +kernel
theorem dX9_readsTraffic_143 : decode cX9_readsTraffic 143 = .ok (.iconst 0, 1) := by decide +kernel
theorem dX9_readsTraffic_144 : decode cX9_readsTraffic 144 = .ok (.goto 8, 3) := by decide +kernel
theorem dX9_readsTraffic_147 : decode cX9_readsTraffic 147 = .ok (.iload 4, 2) := by decide +kernel
theorem dX9_readsTraffic_149 : decode cX9_readsTraffic 149 = .ok (.bipush 63, 2) := by decide +kernel
theorem dX9_readsTraffic_151 : decode cX9_readsTraffic 151 = .ok (.iand, 1) := by decide +kernel
theorem dX9_readsTraffic_152 : decode cX9_readsTraffic 152 = .ok (.istore 8, 2) := by decide +kernel
theorem dX9_readsTraffic_154 : decode cX9_readsTraffic 154 = .ok (.aload_n 0, 1) := by decide +kernel
theorem dX9_readsTraffic_155 : decode cX9_readsTraffic 155 = .ok (.getfield 14, 3) := by decide +kernel
theorem dX9_readsTraffic_158 : decode cX9_readsTraffic 158 = .ok (.iconst 0, 1) := by decide +kernel
theorem dX9_readsTraffic_159 : decode cX9_readsTraffic 159 = .ok (.iload 8, 2) := by decide +kernel
theorem dX9_readsTraffic_161 : decode cX9_readsTraffic 161 = .ok (.iconst 2, 1) := by decide +kernel
theorem dX9_readsTraffic_162 : decode cX9_readsTraffic 162 = .ok (.ishl, 1) := by decide +kernel
theorem dX9_readsTraffic_163 : decode cX9_readsTraffic 163 = .ok (.iload 4, 2) := by decide +kernel
theorem dX9_readsTraffic_165 : decode cX9_readsTraffic 165 = .ok (.bipush 6, 2) := by decide +kernel
theorem dX9_readsTraffic_167 : decode cX9_readsTraffic 167 = .ok (.ishr, 1) := by decide +kernel
theorem dX9_readsTraffic_168 : decode cX9_readsTraffic 168 = .ok (.ior, 1) := by decide +kernel
theorem dX9_readsTraffic_169 : decode cX9_readsTraffic 169 = .ok (.lload 5, 2) := by decide +kernel
theorem dX9_readsTraffic_171 : decode cX9_readsTraffic 171 = .ok (.l2i, 1) := by decide +kernel
theorem dX9_readsTraffic_172 : decode cX9_readsTraffic 172 = .ok (.invokestatic 125, 3) := by decide +kernel
theorem dX9_readsTraffic_175 : decode cX9_readsTraffic 175 = .ok (.iconst 4, 1) := by decide +kernel
theorem dX9_readsTraffic_176 : decode cX9_readsTraffic 176 = .ok (.invokevirtual 128, 3) := by decide +kernel
theorem dX9_readsTraffic_179 : decode cX9_readsTraffic 179 = .ok (.aload_n 0, 1) := by decide +kernel
theorem dX9_readsTraffic_180 : decode cX9_readsTraffic 180 = .ok (.dup, 1) := by decide +kernel
theorem dX9_readsTraffic_181 : decode cX9_readsTraffic 181 = .ok (.getfield 50, 3) := by decide +kernel
theorem dX9_readsTraffic_184 : decode cX9_readsTraffic 184 = .ok (.iload_n 3, 1) := by decide +kernel
theorem dX9_readsTraffic_185 : decode cX9_readsTraffic 185 = .ok (.iadd, 1) := by decide +kernel
theorem dX9_readsTraffic_186 : decode cX9_readsTraffic 186 = .ok (.putfield 50, 3) := by decide +kernel
theorem dX9_readsTraffic_189 : decode cX9_readsTraffic 189 = .ok (.iconst 1, 1) := by decide +kernel
theorem dX9_readsTraffic_190 : decode cX9_readsTraffic 190 = .ok (.ireturn, 1) := by decide +kernel
theorem dX9_readsKind_0 : decode cX9_readsKind 0 = .ok (.aload_n 0, 1) := by decide +kernel
theorem dX9_readsKind_1 : decode cX9_readsKind 1 = .ok (.invokevirtual 132, 3) := by decide +kernel
theorem dX9_readsKind_4 : decode cX9_readsKind 4 = .ok (.ifCond .eq 16, 3) := by decide +kernel
theorem dX9_readsKind_7 : decode cX9_readsKind 7 = .ok (.aload_n 0, 1) := by decide +kernel
theorem dX9_readsKind_8 : decode cX9_readsKind 8 = .ok (.getfield 14, 3) := by decide +kernel
theorem dX9_readsKind_11 : decode cX9_readsKind 11 = .ok (.bipush 6, 2) := by decide +kernel
theorem dX9_readsKind_13 : decode cX9_readsKind 13 = .ok (.bipush 17, 2) := by decide +kernel
theorem dX9_readsKind_15 : decode cX9_readsKind 15 = .ok (.invokevirtual 136, 3) := by decide +kernel
theorem dX9_readsKind_18 : decode cX9_readsKind 18 = .ok (.iconst 1, 1) := by decide +kernel
theorem dX9_readsKind_19 : decode cX9_readsKind 19 = .ok (.ireturn, 1) := by decide +kernel
theorem dX9_readsKind_20 : decode cX9_readsKind 20 = .ok (.aload_n 0, 1) := by decide +kernel
theorem dX9_readsKind_21 : decode cX9_readsKind 21 = .ok (.aload_n 1, 1) := by decide +kernel
theorem dX9_readsKind_22 : decode cX9_readsKind 22 = .ok (.iconst 1, 1) := by decide +kernel
theorem dX9_readsKind_23 : decode cX9_readsKind 23 = .ok (.invokevirtual 101, 3) := by decide +kernel
theorem dX9_readsKind_26 : decode cX9_readsKind 26 = .ok (.ifCond .ne 5, 3) := by decide +kernel
theorem dX9_readsKind_29 : decode cX9_readsKind 29 = .ok (.iconst 0, 1) := by decide +kernel
theorem dX9_readsKind_30 : decode cX9_readsKind 30 = .ok (.ireturn, 1) := by decide +kernel
theorem dX9_readsKind_31 : decode cX9_readsKind 31 = .ok (.aload_n 0, 1) := by decide +kernel
theorem dX9_readsKind_32 : decode cX9_readsKind 32 = .ok (.getfield 14, 3) := by decide +kernel
theorem dX9_readsKind_35 : decode cX9_readsKind 35 = .ok (.bipush 6, 2) := by decide +kernel
theorem dX9_readsKind_37 : decode cX9_readsKind 37 = .ok (.aload_n 0, 1) := by decide +kernel
theorem dX9_readsKind_38 : decode cX9_readsKind 38 = .ok (.aload_n 1, 1) := by decide +kernel
theorem dX9_readsKind_39 : decode cX9_readsKind 39 = .ok (.invokevirtual 104, 3) := by decide +kernel
theorem dX9_readsKind_42 : decode cX9_readsKind 42 = .ok (.invokevirtual 136, 3) := by decide +kernel
theorem dX9_readsKind_45 : decode cX9_readsKind 45 = .ok (.iconst 1, 1) := by decide +kernel
theorem dX9_readsKind_46 : decode cX9_readsKind 46 = .ok (.ireturn, 1) := by decide +kernel
theorem dX9_readsHops_0 : decode cX9_readsHops 0 = .ok (.aload_n 0, 1) := by decide +kernel
theorem dX9_readsHops_1 : decode cX9_readsHops 1 = .ok (.getfield 98, 3) := by decide +kernel
theorem dX9_readsHops_4 : decode cX9_readsHops 4 = .ok (.iconst 3, 1) := by decide +kernel
theorem dX9_readsHops_5 : decode cX9_readsHops 5 = .ok (.iand, 1) := by decide +kernel
theorem dX9_readsHops_6 : decode cX9_readsHops 6 = .ok (.istore_n 2, 1) := by decide +kernel
theorem dX9_readsHops_7 : decode cX9_readsHops 7 = .ok (.iload_n 2, 1) := by decide +kernel
theorem dX9_readsHops_8 : decode cX9_readsHops 8 = .ok (.ifCond .ne 14, 3) := by decide +kernel
theorem dX9_readsHops_11 : decode cX9_readsHops 11 = .ok (.aload_n 0, 1) := by decide +kernel
theorem dX9_readsHops_12 : decode cX9_readsHops 12 = .ok (.aload_n 1, 1) := by decide +kernel
theorem dX9_readsHops_13 : decode cX9_readsHops 13 = .ok (.iconst 1, 1) := by decide +kernel
theorem dX9_readsHops_14 : decode cX9_readsHops 14 = .ok (.invokevirtual 101, 3) := by decide +kernel
theorem dX9_readsHops_17 : decode cX9_readsHops 17 = .ok (.ifCond .ne 5, 3) := by decide +kernel
theorem dX9_readsHops_20 : decode cX9_readsHops 20 = .ok (.iconst 0, 1) := by decide +kernel
theorem dX9_readsHops_21 : decode cX9_readsHops 21 = .ok (.ireturn, 1) := by decide +kernel
theorem dX9_readsHops_22 : decode cX9_readsHops 22 = .ok (.iload_n 2, 1) := by decide +kernel
theorem dX9_readsHops_23 : decode cX9_readsHops 23 = .ok (.ifCond .ne 11, 3) := by decide +kernel
theorem dX9_readsHops_26 : decode cX9_readsHops 26 = .ok (.aload_n 0, 1) := by decide +kernel
theorem dX9_readsHops_27 : decode cX9_readsHops 27 = .ok (.aload_n 1, 1) := by decide +kernel
theorem dX9_readsHops_28 : decode cX9_readsHops 28 = .ok (.invokevirtual 104, 3) := by decide +kernel
theorem dX9_readsHops_31 : decode cX9_readsHops 31 = .ok (.goto 25, 3) := by decide +kernel
theorem dX9_readsHops_34 : decode cX9_readsHops 34 = .ok (.iload_n 2, 1) := by decide +kernel
theorem dX9_readsHops_35 : decode cX9_readsHops 35 = .ok (.iconst 1, 1) := by decide +kernel
theorem dX9_readsHops_36 : decode cX9_readsHops 36 = .ok (.if_icmp .ne 7, 3) := by decide +kernel
theorem dX9_readsHops_39 : decode cX9_readsHops 39 = .ok (.iconst 1, 1) := by decide +kernel
theorem dX9_readsHops_40 : decode cX9_readsHops 40 = .ok (.goto 16, 3) := by decide +kernel
theorem dX9_readsHops_43 : decode cX9_readsHops 43 = .ok (.iload_n 2, 1) := by decide +kernel
theorem dX9_readsHops_44 : decode cX9_readsHops 44 = .ok (.iconst 2, 1) := by decide +kernel
theorem dX9_readsHops_45 : decode cX9_readsHops 45 = .ok (.if_icmp .ne 8, 3) := by decide +kernel
theorem dX9_readsHops_48 : decode cX9_readsHops 48 = .ok (.bipush 64, 2) := by decide +kernel
theorem dX9_readsHops_50 : decode cX9_readsHops 50 = .ok (.goto 6, 3) := by decide +kernel
theorem dX9_readsHops_53 : decode cX9_readsHops 53 = .ok (.sipush 255, 3) := by decide +kernel
theorem dX9_readsHops_56 : decode cX9_readsHops 56 = .ok (.istore_n 3, 1) := by decide +kernel
theorem dX9_readsHops_57 : decode cX9_readsHops 57 = .ok (.aload_n 0, 1) := by decide +kernel
theorem dX9_readsHops_58 : decode cX9_readsHops 58 = .ok (.getfield 14, 3) := by decide +kernel
theorem dX9_readsHops_61 : decode cX9_readsHops 61 = .ok (.bipush 7, 2) := by decide +kernel
theorem dX9_readsHops_63 : decode cX9_readsHops 63 = .ok (.iload_n 3, 1) := by decide +kernel
theorem dX9_readsHops_64 : decode cX9_readsHops 64 = .ok (.invokevirtual 136, 3) := by decide +kernel
theorem dX9_readsHops_67 : decode cX9_readsHops 67 = .ok (.iconst 1, 1) := by decide +kernel
theorem dX9_readsHops_68 : decode cX9_readsHops 68 = .ok (.ireturn, 1) := by decide +kernel
theorem dX9_readsAddress_0 : decode cX9_readsAddress 0 = .ok (.iload_n 2, 1) := by decide +kernel
theorem dX9_readsAddress_1 : decode cX9_readsAddress 1 = .ok (.invokestatic 140, 3) := by decide +kernel
theorem dX9_readsAddress_4 : decode cX9_readsAddress 4 = .ok (.istore 4, 2) := by decide +kernel
theorem dX9_readsAddress_6 : decode cX9_readsAddress 6 = .ok (.aload_n 0, 1) := by decide +kernel
theorem dX9_readsAddress_7 : decode cX9_readsAddress 7 = .ok (.aload_n 1, 1) := by decide +kernel
theorem dX9_readsAddress_8 : decode cX9_readsAddress 8 = .ok (.iload 4, 2) := by decide +kernel
theorem dX9_readsAddress_10 : decode cX9_readsAddress 10 = .ok (.invokevirtual 101, 3) := by decide +kernel
theorem dX9_readsAddress_13 : decode cX9_readsAddress 13 = .ok (.ifCond .ne 5, 3) := by decide +kernel
theorem dX9_readsAddress_16 : decode cX9_readsAddress 16 = .ok (.iconst 0, 1) := by decide +kernel
theorem dX9_readsAddress_17 : decode cX9_readsAddress 17 = .ok (.ireturn, 1) := by decide +kernel
theorem dX9_readsAddress_18 : decode cX9_readsAddress 18 = .ok (.iload 4, 2) := by decide +kernel
theorem dX9_readsAddress_20 : decode cX9_readsAddress 20 = .ok (.bipush 16, 2) := by decide +kernel
theorem dX9_readsAddress_22 : decode cX9_readsAddress 22 = .ok (.if_icmp .ne 52, 3) := by decide +kernel
theorem dX9_readsAddress_25 : decode cX9_readsAddress 25 = .ok (.aload_n 0, 1) := by decide +kernel
theorem dX9_readsAddress_26 : decode cX9_readsAddress 26 = .ok (.getfield 14, 3) := by decide +kernel
theorem dX9_readsAddress_29 : decode cX9_readsAddress 29 = .ok (.iload_n 3, 1) := by decide +kernel
theorem dX9_readsAddress_30 : decode cX9_readsAddress 30 = .ok (.aload_n 1, 1) := by decide +kernel
theorem dX9_readsAddress_31 : decode cX9_readsAddress 31 = .ok (.aload_n 0, 1) := by decide +kernel
theorem dX9_readsAddress_32 : decode cX9_readsAddress 32 = .ok (.getfield 50, 3) := by decide +kernel
theorem dX9_readsAddress_35 : decode cX9_readsAddress 35 = .ok (.bipush 8, 2) := by decide +kernel
theorem dX9_readsAddress_37 : decode cX9_readsAddress 37 = .ok (.invokevirtual 119, 3) := by decide +kernel
theorem dX9_readsAddress_40 : decode cX9_readsAddress 40 = .ok (.bipush 8, 2) := by decide +kernel
theorem dX9_readsAddress_42 : decode cX9_readsAddress 42 = .ok (.invokevirtual 128, 3) := by decide +kernel
theorem dX9_readsAddress_45 : decode cX9_readsAddress 45 = .ok (.aload_n 0, 1) := by decide +kernel
theorem dX9_readsAddress_46 : decode cX9_readsAddress 46 = .ok (.getfield 14, 3) := by decide +kernel
theorem dX9_readsAddress_49 : decode cX9_readsAddress 49 = .ok (.iload_n 3, 1) := by decide +kernel
theorem dX9_readsAddress_50 : decode cX9_readsAddress 50 = .ok (.bipush 8, 2) := by decide +kernel
theorem dX9_readsAddress_52 : decode cX9_readsAddress 52 = .ok (.iadd, 1) := by decide +kernel
theorem dX9_readsAddress_53 : decode cX9_readsAddress 53 = .ok (.aload_n 1, 1) := by decide +kernel
theorem dX9_readsAddress_54 : decode cX9_readsAddress 54 = .ok (.aload_n 0, 1) := by decide +kernel
theorem dX9_readsAddress_55 : decode cX9_readsAddress 55 = .ok (.getfield 50, 3) := by decide +kernel
theorem dX9_readsAddress_58 : decode cX9_readsAddress 58 = .ok (.bipush 8, 2) := by decide +kernel
theorem dX9_readsAddress_60 : decode cX9_readsAddress 60 = .ok (.iadd, 1) := by decide +kernel
theorem dX9_readsAddress_61 : decode cX9_readsAddress 61 = .ok (.bipush 8, 2) := by decide +kernel
theorem dX9_readsAddress_63 : decode cX9_readsAddress 63 = .ok (.invokevirtual 119, 3) := by decide +kernel
theorem dX9_readsAddress_66 : decode cX9_readsAddress 66 = .ok (.bipush 8, 2) := by decide +kernel
theorem dX9_readsAddress_68 : decode cX9_readsAddress 68 = .ok (.invokevirtual 128, 3) := by decide +kernel
theorem dX9_readsAddress_71 : decode cX9_readsAddress 71 = .ok (.goto 155, 3) := by decide +kernel
theorem dX9_readsAddress_74 : decode cX9_readsAddress 74 = .ok (.iload_n 2, 1) := by decide +kernel
theorem dX9_readsAddress_75 : decode cX9_readsAddress 75 = .ok (.bipush 11, 2) := by decide +kernel
theorem dX9_readsAddress_77 : decode cX9_readsAddress 77 = .ok (.if_icmp .ne 37, 3) := by decide +kernel
theorem dX9_readsAddress_80 : decode cX9_readsAddress 80 = .ok (.aload_n 0, 1) := by decide +kernel
theorem dX9_readsAddress_81 : decode cX9_readsAddress 81 = .ok (.getfield 14, 3) := by decide +kernel
theorem dX9_readsAddress_84 : decode cX9_readsAddress 84 = .ok (.iload_n 3, 1) := by decide +kernel
theorem dX9_readsAddress_85 : decode cX9_readsAddress 85 = .ok (.ldc2_w 143, 3) := by decide +kernel
theorem dX9_readsAddress_88 : decode cX9_readsAddress 88 = .ok (.iconst 2, 1) := by decide +kernel
theorem dX9_readsAddress_89 : decode cX9_readsAddress 89 = .ok (.invokevirtual 128, 3) := by decide +kernel
theorem dX9_readsAddress_92 : decode cX9_readsAddress 92 = .ok (.aload_n 0, 1) := by decide +kernel
theorem dX9_readsAddress_93 : decode cX9_readsAddress 93 = .ok (.getfield 14, 3) := by decide +kernel
theorem dX9_readsAddress_96 : decode cX9_readsAddress 96 = .ok (.iload_n 3, 1) := by decide +kernel
theorem dX9_readsAddress_97 : decode cX9_readsAddress 97 = .ok (.bipush 15, 2) := by decide +kernel
theorem dX9_readsAddress_99 : decode cX9_readsAddress 99 = .ok (.iadd, 1) := by decide +kernel
theorem dX9_readsAddress_100 : decode cX9_readsAddress 100 = .ok (.aload_n 1, 1) := by decide +kernel
theorem dX9_readsAddress_101 : decode cX9_readsAddress 101 = .ok (.aload_n 0, 1) := by decide +kernel
theorem dX9_readsAddress_102 : decode cX9_readsAddress 102 = .ok (.getfield 50, 3) := by decide +kernel
theorem dX9_readsAddress_105 : decode cX9_readsAddress 105 = .ok (.invokevirtual 95, 3) := by decide +kernel
theorem dX9_readsAddress_108 : decode cX9_readsAddress 108 = .ok (.invokevirtual 136, 3) := by decide +kernel
theorem dX9_readsAddress_111 : decode cX9_readsAddress 111 = .ok (.goto 115, 3) := by decide +kernel
theorem dX9_readsAddress_114 : decode cX9_readsAddress 114 = .ok (.iload_n 2, 1) := by decide +kernel
theorem dX9_readsAddress_115 : decode cX9_readsAddress 115 = .ok (.bipush 8, 2) := by decide +kernel
theorem dX9_readsAddress_117 : decode cX9_readsAddress 117 = .ok (.if_icmp .le 55, 3) := by decide +kernel
theorem dX9_readsAddress_120 : decode cX9_readsAddress 120 = .ok (.aload_n 0, 1) := by decide +kernel
theorem dX9_readsAddress_121 : decode cX9_readsAddress 121 = .ok (.getfield 14, 3) := by decide +kernel
theorem dX9_readsAddress_124 : decode cX9_readsAddress 124 = .ok (.iload_n 3, 1) := by decide +kernel
theorem dX9_readsAddress_125 : decode cX9_readsAddress 125 = .ok (.ldc2_w 145, 3) := by decide +kernel
theorem dX9_readsAddress_128 : decode cX9_readsAddress 128 = .ok (.aload_n 1, 1) := by decide +kernel
theorem dX9_readsAddress_129 : decode cX9_readsAddress 129 = .ok (.aload_n 0, 1) := by decide +kernel
theorem dX9_readsAddress_130 : decode cX9_readsAddress 130 = .ok (.getfield 50, 3) := by decide +kernel
theorem dX9_readsAddress_133 : decode cX9_readsAddress 133 = .ok (.invokevirtual 95, 3) := by decide +kernel
theorem dX9_readsAddress_136 : decode cX9_readsAddress 136 = .ok (.i2l, 1) := by decide +kernel
theorem dX9_readsAddress_137 : decode cX9_readsAddress 137 = .ok (.lor, 1) := by decide +kernel
theorem dX9_readsAddress_138 : decode cX9_readsAddress 138 = .ok (.iconst 2, 1) := by decide +kernel
theorem dX9_readsAddress_139 : decode cX9_readsAddress 139 = .ok (.invokevirtual 128, 3) := by decide +kernel
theorem dX9_readsAddress_142 : decode cX9_readsAddress 142 = .ok (.aload_n 0, 1) := by decide +kernel
theorem dX9_readsAddress_143 : decode cX9_readsAddress 143 = .ok (.getfield 14, 3) := by decide +kernel
theorem dX9_readsAddress_146 : decode cX9_readsAddress 146 = .ok (.iload_n 3, 1) := by decide +kernel
theorem dX9_readsAddress_147 : decode cX9_readsAddress 147 = .ok (.bipush 8, 2) := by decide +kernel
theorem dX9_readsAddress_149 : decode cX9_readsAddress 149 = .ok (.iadd, 1) := by decide +kernel
theorem dX9_readsAddress_150 : decode cX9_readsAddress 150 = .ok (.aload_n 1, 1) := by decide +kernel
theorem dX9_readsAddress_151 : decode cX9_readsAddress 151 = .ok (.aload_n 0, 1) := by decide +kernel
theorem dX9_readsAddress_152 : decode cX9_readsAddress 152 = .ok (.getfield 50, 3) := by decide +kernel
theorem dX9_readsAddress_155 : decode cX9_readsAddress 155 = .ok (.iconst 1, 1) := by decide +kernel
theorem dX9_readsAddress_156 : decode cX9_readsAddress 156 = .ok (.iadd, 1) := by decide +kernel
theorem dX9_readsAddress_157 : decode cX9_readsAddress 157 = .ok (.iload 4, 2) := by decide +kernel
theorem dX9_readsAddress_159 : decode cX9_readsAddress 159 = .ok (.iconst 1, 1) := by decide +kernel
theorem dX9_readsAddress_160 : decode cX9_readsAddress 160 = .ok (.isub, 1) := by decide +kernel
theorem dX9_readsAddress_161 : decode cX9_readsAddress 161 = .ok (.invokevirtual 119, 3) := by decide +kernel
theorem dX9_readsAddress_164 : decode cX9_readsAddress 164 = .ok (.bipush 8, 2) := by decide +kernel
theorem dX9_readsAddress_166 : decode cX9_readsAddress 166 = .ok (.invokevirtual 128, 3) := by decide +kernel
theorem dX9_readsAddress_169 : decode cX9_readsAddress 169 = .ok (.goto 57, 3) := by decide +kernel
theorem dX9_readsAddress_172 : decode cX9_readsAddress 172 = .ok (.iload_n 2, 1) := by decide +kernel
theorem dX9_readsAddress_173 : decode cX9_readsAddress 173 = .ok (.iconst 4, 1) := by decide +kernel
theorem dX9_readsAddress_174 : decode cX9_readsAddress 174 = .ok (.if_icmp .eq 52, 3) := by decide +kernel
theorem dX9_readsAddress_177 : decode cX9_readsAddress 177 = .ok (.aload_n 1, 1) := by decide +kernel
theorem dX9_readsAddress_178 : decode cX9_readsAddress 178 = .ok (.aload_n 0, 1) := by decide +kernel
theorem dX9_readsAddress_179 : decode cX9_readsAddress 179 = .ok (.getfield 50, 3) := by decide +kernel
theorem dX9_readsAddress_182 : decode cX9_readsAddress 182 = .ok (.iload 4, 2) := by decide +kernel
theorem dX9_readsAddress_184 : decode cX9_readsAddress 184 = .ok (.invokevirtual 119, 3) := by decide +kernel
theorem dX9_readsAddress_187 : decode cX9_readsAddress 187 = .ok (.lstore 5, 2) := by decide +kernel
theorem dX9_readsAddress_189 : decode cX9_readsAddress 189 = .ok (.aload_n 0, 1) := by decide +kernel
theorem dX9_readsAddress_190 : decode cX9_readsAddress 190 = .ok (.getfield 14, 3) := by decide +kernel
theorem dX9_readsAddress_193 : decode cX9_readsAddress 193 = .ok (.iload_n 3, 1) := by decide +kernel
theorem dX9_readsAddress_194 : decode cX9_readsAddress 194 = .ok (.aload_n 0, 1) := by decide +kernel
theorem dX9_readsAddress_195 : decode cX9_readsAddress 195 = .ok (.iload_n 2, 1) := by decide +kernel
theorem dX9_readsAddress_196 : decode cX9_readsAddress 196 = .ok (.iload_n 3, 1) := by decide +kernel
theorem dX9_readsAddress_197 : decode cX9_readsAddress 197 = .ok (.invokevirtual 147, 3) := by decide +kernel
theorem dX9_readsAddress_200 : decode cX9_readsAddress 200 = .ok (.bipush 8, 2) := by decide +kernel
theorem dX9_readsAddress_202 : decode cX9_readsAddress 202 = .ok (.invokevirtual 128, 3) := by decide +kernel
theorem dX9_readsAddress_205 : decode cX9_readsAddress 205 = .ok (.aload_n 0, 1) := by decide +kernel
theorem dX9_readsAddress_206 : decode cX9_readsAddress 206 = .ok (.getfield 14, 3) := by decide +kernel
theorem dX9_readsAddress_209 : decode cX9_readsAddress 209 = .ok (.iload_n 3, 1) := by decide +kernel
theorem dX9_readsAddress_210 : decode cX9_readsAddress 210 = .ok (.bipush 8, 2) := by decide +kernel
theorem dX9_readsAddress_212 : decode cX9_readsAddress 212 = .ok (.iadd, 1) := by decide +kernel
theorem dX9_readsAddress_213 : decode cX9_readsAddress 213 = .ok (.aload_n 0, 1) := by decide +kernel
theorem dX9_readsAddress_214 : decode cX9_readsAddress 214 = .ok (.iload_n 2, 1) := by decide +kernel
theorem dX9_readsAddress_215 : decode cX9_readsAddress 215 = .ok (.iload_n 3, 1) := by decide +kernel
theorem dX9_readsAddress_216 : decode cX9_readsAddress 216 = .ok (.lload 5, 2) := by decide +kernel
theorem dX9_readsAddress_218 : decode cX9_readsAddress 218 = .ok (.invokevirtual 150, 3) := by decide +kernel
theorem dX9_readsAddress_221 : decode cX9_readsAddress 221 = .ok (.bipush 8, 2) := by decide +kernel
theorem dX9_readsAddress_223 : decode cX9_readsAddress 223 = .ok (.invokevirtual 128, 3) := by decide +kernel
theorem dX9_readsAddress_226 : decode cX9_readsAddress 226 = .ok (.aload_n 0, 1) := by decide +kernel
theorem dX9_readsAddress_227 : decode cX9_readsAddress 227 = .ok (.dup, 1) := by decide +kernel
theorem dX9_readsAddress_228 : decode cX9_readsAddress 228 = .ok (.getfield 50, 3) := by decide +kernel
theorem dX9_readsAddress_231 : decode cX9_readsAddress 231 = .ok (.iload 4, 2) := by decide +kernel
theorem dX9_readsAddress_233 : decode cX9_readsAddress 233 = .ok (.iadd, 1) := by decide +kernel
theorem dX9_readsAddress_234 : decode cX9_readsAddress 234 = .ok (.putfield 50, 3) := by decide +kernel
theorem dX9_readsAddress_237 : decode cX9_readsAddress 237 = .ok (.iconst 1, 1) := by decide +kernel
theorem dX9_readsAddress_238 : decode cX9_readsAddress 238 = .ok (.ireturn, 1) := by decide +kernel
theorem dX9_firstEight_0 : decode cX9_firstEight 0 = .ok (.iload_n 1, 1) := by decide +kernel
theorem dX9_firstEight_1 : decode cX9_firstEight 1 = .ok (.invokestatic 110, 3) := by decide +kernel
theorem dX9_firstEight_4 : decode cX9_firstEight 4 = .ok (.ifCond .ne 7, 3) := by decide +kernel
theorem dX9_firstEight_7 : decode cX9_firstEight 7 = .ok (.ldc2_w 154, 3) := by decide +kernel
theorem dX9_firstEight_10 : decode cX9_firstEight 10 = .ok (.lreturn, 1) := by decide +kernel
theorem dX9_firstEight_11 : decode cX9_firstEight 11 = .ok (.aload_n 0, 1) := by decide +kernel
theorem dX9_firstEight_12 : decode cX9_firstEight 12 = .ok (.getfield 20, 3) := by decide +kernel
theorem dX9_firstEight_15 : decode cX9_firstEight 15 = .ok (.iload_n 2, 1) := by decide +kernel
theorem dX9_firstEight_16 : decode cX9_firstEight 16 = .ok (.bipush 8, 2) := by decide +kernel
theorem dX9_firstEight_18 : decode cX9_firstEight 18 = .ok (.if_icmp .ne 12, 3) := by decide +kernel
theorem dX9_firstEight_21 : decode cX9_firstEight 21 = .ok (.aload_n 0, 1) := by decide +kernel
theorem dX9_firstEight_22 : decode cX9_firstEight 22 = .ok (.getfield 53, 3) := by decide +kernel
theorem dX9_firstEight_25 : decode cX9_firstEight 25 = .ok (.iconst 4, 1) := by decide +kernel
theorem dX9_firstEight_26 : decode cX9_firstEight 26 = .ok (.ishr, 1) := by decide +kernel
theorem dX9_firstEight_27 : decode cX9_firstEight 27 = .ok (.goto 10, 3) := by decide +kernel
theorem dX9_firstEight_30 : decode cX9_firstEight 30 = .ok (.aload_n 0, 1) := by decide +kernel
theorem dX9_firstEight_31 : decode cX9_firstEight 31 = .ok (.getfield 53, 3) := by decide +kernel
theorem dX9_firstEight_34 : decode cX9_firstEight 34 = .ok (.bipush 15, 2) := by decide +kernel
theorem dX9_firstEight_36 : decode cX9_firstEight 36 = .ok (.iand, 1) := by decide +kernel
theorem dX9_firstEight_37 : decode cX9_firstEight 37 = .ok (.invokevirtual 156, 3) := by decide +kernel
theorem dX9_firstEight_40 : decode cX9_firstEight 40 = .ok (.lreturn, 1) := by decide +kernel
theorem dX9_lastEight_0 : decode cX9_lastEight 0 = .ok (.iload_n 1, 1) := by decide +kernel
theorem dX9_lastEight_1 : decode cX9_lastEight 1 = .ok (.iconst 3, 1) := by decide +kernel
theorem dX9_lastEight_2 : decode cX9_lastEight 2 = .ok (.iand, 1) := by decide +kernel
theorem dX9_lastEight_3 : decode cX9_lastEight 3 = .ok (.lookupswitch 33 #[(1, 25), (2, 27)], 25) := by decide +kernel
theorem dX9_lastEight_28 : decode cX9_lastEight 28 = .ok (.lload_n 3, 1) := by decide +kernel
theorem dX9_lastEight_29 : decode cX9_lastEight 29 = .ok (.lreturn, 1) := by decide +kernel
theorem dX9_lastEight_30 : decode cX9_lastEight 30 = .ok (.ldc2_w 160, 3) := by decide +kernel
theorem dX9_lastEight_33 : decode cX9_lastEight 33 = .ok (.lload_n 3, 1) := by decide +kernel
theorem dX9_lastEight_34 : decode cX9_lastEight 34 = .ok (.lor, 1) := by decide +kernel
theorem dX9_lastEight_35 : decode cX9_lastEight 35 = .ok (.lreturn, 1) := by decide +kernel
theorem dX9_lastEight_36 : decode cX9_lastEight 36 = .ok (.aload_n 0, 1) := by decide +kernel
theorem dX9_lastEight_37 : decode cX9_lastEight 37 = .ok (.getfield 20, 3) := by decide +kernel
theorem dX9_lastEight_40 : decode cX9_lastEight 40 = .ok (.iload_n 2, 1) := by decide +kernel
theorem dX9_lastEight_41 : decode cX9_lastEight 41 = .ok (.bipush 8, 2) := by decide +kernel
theorem dX9_lastEight_43 : decode cX9_lastEight 43 = .ok (.if_icmp .ne 7, 3) := by decide +kernel
theorem dX9_lastEight_46 : decode cX9_lastEight 46 = .ok (.iconst 0, 1) := by decide +kernel
theorem dX9_lastEight_47 : decode cX9_lastEight 47 = .ok (.goto 4, 3) := by decide +kernel
theorem dX9_lastEight_50 : decode cX9_lastEight 50 = .ok (.iconst 1, 1) := by decide +kernel
theorem dX9_lastEight_51 : decode cX9_lastEight 51 = .ok (.invokevirtual 162, 3) := by decide +kernel
theorem dX9_lastEight_54 : decode cX9_lastEight 54 = .ok (.lreturn, 1) := by decide +kernel
theorem dX9_readsPorts_0 : decode cX9_readsPorts 0 = .ok (.aload_n 0, 1) := by decide +kernel
theorem dX9_readsPorts_1 : decode cX9_readsPorts 1 = .ok (.invokevirtual 132, 3) := by decide +kernel
theorem dX9_readsPorts_4 : decode cX9_readsPorts 4 = .ok (.ifCond .ne 5, 3) := by decide +kernel
theorem dX9_readsPorts_7 : decode cX9_readsPorts 7 = .ok (.iconst 1, 1) := by decide +kernel
theorem dX9_readsPorts_8 : decode cX9_readsPorts 8 = .ok (.ireturn, 1) := by decide +kernel
theorem dX9_readsPorts_9 : decode cX9_readsPorts 9 = .ok (.aload_n 0, 1) := by decide +kernel
theorem dX9_readsPorts_10 : decode cX9_readsPorts 10 = .ok (.aload_n 1, 1) := by decide +kernel
theorem dX9_readsPorts_11 : decode cX9_readsPorts 11 = .ok (.iconst 1, 1) := by decide +kernel
theorem dX9_readsPorts_12 : decode cX9_readsPorts 12 = .ok (.invokevirtual 101, 3) := by decide +kernel
theorem dX9_readsPorts_15 : decode cX9_readsPorts 15 = .ok (.ifCond .ne 5, 3) := by decide +kernel
theorem dX9_readsPorts_18 : decode cX9_readsPorts 18 = .ok (.iconst 0, 1) := by decide +kernel
theorem dX9_readsPorts_19 : decode cX9_readsPorts 19 = .ok (.ireturn, 1) := by decide +kernel
theorem dX9_readsPorts_20 : decode cX9_readsPorts 20 = .ok (.aload_n 1, 1) := by decide +kernel
theorem dX9_readsPorts_21 : decode cX9_readsPorts 21 = .ok (.aload_n 0, 1) := by decide +kernel
theorem dX9_readsPorts_22 : decode cX9_readsPorts 22 = .ok (.getfield 50, 3) := by decide +kernel
theorem dX9_readsPorts_25 : decode cX9_readsPorts 25 = .ok (.invokevirtual 95, 3) := by decide +kernel
theorem dX9_readsPorts_28 : decode cX9_readsPorts 28 = .ok (.sipush 240, 3) := by decide +kernel
theorem dX9_readsPorts_31 : decode cX9_readsPorts 31 = .ok (.isub, 1) := by decide +kernel
theorem dX9_readsPorts_32 : decode cX9_readsPorts 32 = .ok (.istore_n 2, 1) := by decide +kernel
theorem dX9_readsPorts_33 : decode cX9_readsPorts 33 = .ok (.iload_n 2, 1) := by decide +kernel
theorem dX9_readsPorts_34 : decode cX9_readsPorts 34 = .ok (.ifCond .lt 8, 3) := by decide +kernel
theorem dX9_readsPorts_37 : decode cX9_readsPorts 37 = .ok (.iload_n 2, 1) := by decide +kernel
theorem dX9_readsPorts_38 : decode cX9_readsPorts 38 = .ok (.iconst 3, 1) := by decide +kernel
theorem dX9_readsPorts_39 : decode cX9_readsPorts 39 = .ok (.if_icmp .le 14, 3) := by decide +kernel
theorem dX9_readsPorts_42 : decode cX9_readsPorts 42 = .ok (.aload_n 0, 1) := by decide +kernel
theorem dX9_readsPorts_43 : decode cX9_readsPorts 43 = .ok (.bipush 6, 2) := by decide +kernel
theorem dX9_readsPorts_45 : decode cX9_readsPorts 45 = .ok (.aload_n 0, 1) := by decide +kernel
theorem dX9_readsPorts_46 : decode cX9_readsPorts 46 = .ok (.getfield 50, 3) := by decide +kernel
theorem dX9_readsPorts_49 : decode cX9_readsPorts 49 = .ok (.invokevirtual 91, 3) := by decide +kernel
theorem dX9_readsPorts_52 : decode cX9_readsPorts 52 = .ok (.ireturn, 1) := by decide +kernel
theorem dX9_readsPorts_53 : decode cX9_readsPorts 53 = .ok (.aload_n 0, 1) := by decide +kernel
theorem dX9_readsPorts_54 : decode cX9_readsPorts 54 = .ok (.dup, 1) := by decide +kernel
theorem dX9_readsPorts_55 : decode cX9_readsPorts 55 = .ok (.getfield 50, 3) := by decide +kernel
theorem dX9_readsPorts_58 : decode cX9_readsPorts 58 = .ok (.iconst 1, 1) := by decide +kernel
theorem dX9_readsPorts_59 : decode cX9_readsPorts 59 = .ok (.iadd, 1) := by decide +kernel
theorem dX9_readsPorts_60 : decode cX9_readsPorts 60 = .ok (.putfield 50, 3) := by decide +kernel
theorem dX9_readsPorts_63 : decode cX9_readsPorts 63 = .ok (.iload_n 2, 1) := by decide +kernel
theorem dX9_readsPorts_64 : decode cX9_readsPorts 64 = .ok (.ifCond .ne 7, 3) := by decide +kernel
theorem dX9_readsPorts_67 : decode cX9_readsPorts 67 = .ok (.iconst 4, 1) := by decide +kernel
theorem dX9_readsPorts_68 : decode cX9_readsPorts 68 = .ok (.goto 13, 3) := by decide +kernel
theorem dX9_readsPorts_71 : decode cX9_readsPorts 71 = .ok (.iload_n 2, 1) := by decide +kernel
theorem dX9_readsPorts_72 : decode cX9_readsPorts 72 = .ok (.iconst 3, 1) := by decide +kernel
theorem dX9_readsPorts_73 : decode cX9_readsPorts 73 = .ok (.if_icmp .ne 7, 3) := by decide +kernel
theorem dX9_readsPorts_76 : decode cX9_readsPorts 76 = .ok (.iconst 1, 1) := by decide +kernel
theorem dX9_readsPorts_77 : decode cX9_readsPorts 77 = .ok (.goto 4, 3) := by decide +kernel
theorem dX9_readsPorts_80 : decode cX9_readsPorts 80 = .ok (.iconst 3, 1) := by decide +kernel
theorem dX9_readsPorts_81 : decode cX9_readsPorts 81 = .ok (.istore_n 3, 1) := by decide +kernel
theorem dX9_readsPorts_82 : decode cX9_readsPorts 82 = .ok (.aload_n 0, 1) := by decide +kernel
theorem dX9_readsPorts_83 : decode cX9_readsPorts 83 = .ok (.aload_n 1, 1) := by decide +kernel
theorem dX9_readsPorts_84 : decode cX9_readsPorts 84 = .ok (.iload_n 3, 1) := by decide +kernel
theorem dX9_readsPorts_85 : decode cX9_readsPorts 85 = .ok (.iconst 2, 1) := by decide +kernel
theorem dX9_readsPorts_86 : decode cX9_readsPorts 86 = .ok (.iadd, 1) := by decide +kernel
theorem dX9_readsPorts_87 : decode cX9_readsPorts 87 = .ok (.invokevirtual 101, 3) := by decide +kernel
theorem dX9_readsPorts_90 : decode cX9_readsPorts 90 = .ok (.ifCond .ne 5, 3) := by decide +kernel
theorem dX9_readsPorts_93 : decode cX9_readsPorts 93 = .ok (.iconst 0, 1) := by decide +kernel
theorem dX9_readsPorts_94 : decode cX9_readsPorts 94 = .ok (.ireturn, 1) := by decide +kernel
theorem dX9_readsPorts_95 : decode cX9_readsPorts 95 = .ok (.aload_n 0, 1) := by decide +kernel
theorem dX9_readsPorts_96 : decode cX9_readsPorts 96 = .ok (.iload_n 2, 1) := by decide +kernel
theorem dX9_readsPorts_97 : decode cX9_readsPorts 97 = .ok (.putfield 44, 3) := by decide +kernel
theorem dX9_readsPorts_100 : decode cX9_readsPorts 100 = .ok (.aload_n 0, 1) := by decide +kernel
theorem dX9_readsPorts_101 : decode cX9_readsPorts 101 = .ok (.getfield 14, 3) := by decide +kernel
theorem dX9_readsPorts_104 : decode cX9_readsPorts 104 = .ok (.iload_n 2, 1) := by decide +kernel
theorem dX9_readsPorts_105 : decode cX9_readsPorts 105 = .ok (.aload_n 1, 1) := by decide +kernel
theorem dX9_readsPorts_106 : decode cX9_readsPorts 106 = .ok (.aload_n 0, 1) := by decide +kernel
theorem dX9_readsPorts_107 : decode cX9_readsPorts 107 = .ok (.getfield 50, 3) := by decide +kernel
theorem dX9_readsPorts_110 : decode cX9_readsPorts 110 = .ok (.iload_n 3, 1) := by decide +kernel
theorem dX9_readsPorts_111 : decode cX9_readsPorts 111 = .ok (.invokevirtual 119, 3) := by decide +kernel
theorem dX9_readsPorts_114 : decode cX9_readsPorts 114 = .ok (.invokestatic 165, 3) := by decide +kernel
theorem dX9_readsPorts_117 : decode cX9_readsPorts 117 = .ok (.iconst 4, 1) := by decide +kernel
theorem dX9_readsPorts_118 : decode cX9_readsPorts 118 = .ok (.invokevirtual 169, 3) := by decide +kernel
theorem dX9_readsPorts_121 : decode cX9_readsPorts 121 = .ok (.aload_n 0, 1) := by decide +kernel
theorem dX9_readsPorts_122 : decode cX9_readsPorts 122 = .ok (.getfield 14, 3) := by decide +kernel
theorem dX9_readsPorts_125 : decode cX9_readsPorts 125 = .ok (.lconst 0, 1) := by decide +kernel
theorem dX9_readsPorts_126 : decode cX9_readsPorts 126 = .ok (.iconst 2, 1) := by decide +kernel
theorem dX9_readsPorts_127 : decode cX9_readsPorts 127 = .ok (.invokevirtual 169, 3) := by decide +kernel
theorem dX9_readsPorts_130 : decode cX9_readsPorts 130 = .ok (.aload_n 0, 1) := by decide +kernel
theorem dX9_readsPorts_131 : decode cX9_readsPorts 131 = .ok (.getfield 14, 3) := by decide +kernel
theorem dX9_readsPorts_134 : decode cX9_readsPorts 134 = .ok (.aload_n 1, 1) := by decide +kernel
theorem dX9_readsPorts_135 : decode cX9_readsPorts 135 = .ok (.aload_n 0, 1) := by decide +kernel
theorem dX9_readsPorts_136 : decode cX9_readsPorts 136 = .ok (.getfield 50, 3) := by decide +kernel
theorem dX9_readsPorts_139 : decode cX9_readsPorts 139 = .ok (.iload_n 3, 1) := by decide +kernel
theorem dX9_readsPorts_140 : decode cX9_readsPorts 140 = .ok (.iadd, 1) := by decide +kernel
theorem dX9_readsPorts_141 : decode cX9_readsPorts 141 = .ok (.iconst 2, 1) := by decide +kernel
theorem dX9_readsPorts_142 : decode cX9_readsPorts 142 = .ok (.invokevirtual 119, 3) := by decide +kernel
theorem dX9_readsPorts_145 : decode cX9_readsPorts 145 = .ok (.iconst 2, 1) := by decide +kernel
theorem dX9_readsPorts_146 : decode cX9_readsPorts 146 = .ok (.invokevirtual 169, 3) := by decide +kernel
theorem dX9_readsPorts_149 : decode cX9_readsPorts 149 = .ok (.aload_n 0, 1) := by decide +kernel
theorem dX9_readsPorts_150 : decode cX9_readsPorts 150 = .ok (.dup, 1) := by decide +kernel
theorem dX9_readsPorts_151 : decode cX9_readsPorts 151 = .ok (.getfield 50, 3) := by decide +kernel
theorem dX9_readsPorts_154 : decode cX9_readsPorts 154 = .ok (.iload_n 3, 1) := by decide +kernel
theorem dX9_readsPorts_155 : decode cX9_readsPorts 155 = .ok (.iconst 2, 1) := by decide +kernel
theorem dX9_readsPorts_156 : decode cX9_readsPorts 156 = .ok (.iadd, 1) := by decide +kernel
theorem dX9_readsPorts_157 : decode cX9_readsPorts 157 = .ok (.iadd, 1) := by decide +kernel
theorem dX9_readsPorts_158 : decode cX9_readsPorts 158 = .ok (.putfield 50, 3) := by decide +kernel
theorem dX9_readsPorts_161 : decode cX9_readsPorts 161 = .ok (.iconst 1, 1) := by decide +kernel
theorem dX9_readsPorts_162 : decode cX9_readsPorts 162 = .ok (.ireturn, 1) := by decide +kernel
theorem dX9_portsOf_0 : decode cX9_portsOf 0 = .ok (.iload_n 0, 1) := by decide +kernel
theorem dX9_portsOf_1 : decode cX9_portsOf 1 = .ok (.tableswitch 84 1 3 #[27, 45, 63], 27) := by decide +kernel
theorem dX9_portsOf_28 : decode cX9_portsOf 28 = .ok (.lload_n 1, 1) := by decide +kernel
theorem dX9_portsOf_29 : decode cX9_portsOf 29 = .ok (.bipush 8, 2) := by decide +kernel
theorem dX9_portsOf_31 : decode cX9_portsOf 31 = .ok (.lshr, 1) := by decide +kernel
theorem dX9_portsOf_32 : decode cX9_portsOf 32 = .ok (.bipush 16, 2) := by decide +kernel
theorem dX9_portsOf_34 : decode cX9_portsOf 34 = .ok (.lshl, 1) := by decide +kernel
theorem dX9_portsOf_35 : decode cX9_portsOf 35 = .ok (.ldc2_w 173, 3) := by decide +kernel
theorem dX9_portsOf_38 : decode cX9_portsOf 38 = .ok (.lor, 1) := by decide +kernel
theorem dX9_portsOf_39 : decode cX9_portsOf 39 = .ok (.lload_n 1, 1) := by decide +kernel
theorem dX9_portsOf_40 : decode cX9_portsOf 40 = .ok (.ldc2_w 175, 3) := by decide +kernel
theorem dX9_portsOf_43 : decode cX9_portsOf 43 = .ok (.land, 1) := by decide +kernel
theorem dX9_portsOf_44 : decode cX9_portsOf 44 = .ok (.lor, 1) := by decide +kernel
theorem dX9_portsOf_45 : decode cX9_portsOf 45 = .ok (.lreturn, 1) := by decide +kernel
theorem dX9_portsOf_46 : decode cX9_portsOf 46 = .ok (.ldc2_w 177, 3) := by decide +kernel
theorem dX9_portsOf_49 : decode cX9_portsOf 49 = .ok (.lload_n 1, 1) := by decide +kernel
theorem dX9_portsOf_50 : decode cX9_portsOf 50 = .ok (.bipush 16, 2) := by decide +kernel
theorem dX9_portsOf_52 : decode cX9_portsOf 52 = .ok (.lshr, 1) := by decide +kernel
theorem dX9_portsOf_53 : decode cX9_portsOf 53 = .ok (.bipush 16, 2) := by decide +kernel
theorem dX9_portsOf_55 : decode cX9_portsOf 55 = .ok (.lshl, 1) := by decide +kernel
theorem dX9_portsOf_56 : decode cX9_portsOf 56 = .ok (.lor, 1) := by decide +kernel
theorem dX9_portsOf_57 : decode cX9_portsOf 57 = .ok (.lload_n 1, 1) := by decide +kernel
theorem dX9_portsOf_58 : decode cX9_portsOf 58 = .ok (.ldc2_w 179, 3) := by decide +kernel
theorem dX9_portsOf_61 : decode cX9_portsOf 61 = .ok (.land, 1) := by decide +kernel
theorem dX9_portsOf_62 : decode cX9_portsOf 62 = .ok (.lor, 1) := by decide +kernel
theorem dX9_portsOf_63 : decode cX9_portsOf 63 = .ok (.lreturn, 1) := by decide +kernel
theorem dX9_portsOf_64 : decode cX9_portsOf 64 = .ok (.ldc2_w 181, 3) := by decide +kernel
theorem dX9_portsOf_67 : decode cX9_portsOf 67 = .ok (.lload_n 1, 1) := by decide +kernel
theorem dX9_portsOf_68 : decode cX9_portsOf 68 = .ok (.iconst 4, 1) := by decide +kernel
theorem dX9_portsOf_69 : decode cX9_portsOf 69 = .ok (.lshr, 1) := by decide +kernel
theorem dX9_portsOf_70 : decode cX9_portsOf 70 = .ok (.lor, 1) := by decide +kernel
theorem dX9_portsOf_71 : decode cX9_portsOf 71 = .ok (.bipush 16, 2) := by decide +kernel
theorem dX9_portsOf_73 : decode cX9_portsOf 73 = .ok (.lshl, 1) := by decide +kernel
theorem dX9_portsOf_74 : decode cX9_portsOf 74 = .ok (.ldc2_w 181, 3) := by decide +kernel
theorem dX9_portsOf_77 : decode cX9_portsOf 77 = .ok (.lor, 1) := by decide +kernel
theorem dX9_portsOf_78 : decode cX9_portsOf 78 = .ok (.lload_n 1, 1) := by decide +kernel
theorem dX9_portsOf_79 : decode cX9_portsOf 79 = .ok (.ldc2_w 183, 3) := by decide +kernel
theorem dX9_portsOf_82 : decode cX9_portsOf 82 = .ok (.land, 1) := by decide +kernel
theorem dX9_portsOf_83 : decode cX9_portsOf 83 = .ok (.lor, 1) := by decide +kernel
theorem dX9_portsOf_84 : decode cX9_portsOf 84 = .ok (.lreturn, 1) := by decide +kernel
theorem dX9_portsOf_85 : decode cX9_portsOf 85 = .ok (.lload_n 1, 1) := by decide +kernel
theorem dX9_portsOf_86 : decode cX9_portsOf 86 = .ok (.lreturn, 1) := by decide +kernel
theorem dX9_readsRest_0 : decode cX9_readsRest 0 = .ok (.iload_n 2, 1) := by decide +kernel
theorem dX9_readsRest_1 : decode cX9_readsRest 1 = .ok (.istore_n 3, 1) := by decide +kernel
theorem dX9_readsRest_2 : decode cX9_readsRest 2 = .ok (.iload_n 2, 1) := by decide +kernel
theorem dX9_readsRest_3 : decode cX9_readsRest 3 = .ok (.iconst (-1), 1) := by decide +kernel
theorem dX9_readsRest_4 : decode cX9_readsRest 4 = .ok (.if_icmp .ne 24, 3) := by decide +kernel
theorem dX9_readsRest_7 : decode cX9_readsRest 7 = .ok (.aload_n 1, 1) := by decide +kernel
theorem dX9_readsRest_8 : decode cX9_readsRest 8 = .ok (.invokevirtual 88, 3) := by decide +kernel
theorem dX9_readsRest_11 : decode cX9_readsRest 11 = .ok (.aload_n 0, 1) := by decide +kernel
theorem dX9_readsRest_12 : decode cX9_readsRest 12 = .ok (.getfield 50, 3) := by decide +kernel
theorem dX9_readsRest_15 : decode cX9_readsRest 15 = .ok (.isub, 1) := by decide +kernel
theorem dX9_readsRest_16 : decode cX9_readsRest 16 = .ok (.aload_n 0, 1) := by decide +kernel
theorem dX9_readsRest_17 : decode cX9_readsRest 17 = .ok (.getfield 14, 3) := by decide +kernel
theorem dX9_readsRest_20 : decode cX9_readsRest 20 = .ok (.invokevirtual 88, 3) := by decide +kernel
theorem dX9_readsRest_23 : decode cX9_readsRest 23 = .ok (.iadd, 1) := by decide +kernel
theorem dX9_readsRest_24 : decode cX9_readsRest 24 = .ok (.bipush 40, 2) := by decide +kernel
theorem dX9_readsRest_26 : decode cX9_readsRest 26 = .ok (.isub, 1) := by decide +kernel
theorem dX9_readsRest_27 : decode cX9_readsRest 27 = .ok (.istore_n 3, 1) := by decide +kernel
theorem dX9_readsRest_28 : decode cX9_readsRest 28 = .ok (.iload_n 3, 1) := by decide +kernel
theorem dX9_readsRest_29 : decode cX9_readsRest 29 = .ok (.sipush 560, 3) := by decide +kernel
theorem dX9_readsRest_32 : decode cX9_readsRest 32 = .ok (.if_icmp .le 14, 3) := by decide +kernel
theorem dX9_readsRest_35 : decode cX9_readsRest 35 = .ok (.aload_n 0, 1) := by decide +kernel
theorem dX9_readsRest_36 : decode cX9_readsRest 36 = .ok (.bipush 7, 2) := by decide +kernel
theorem dX9_readsRest_38 : decode cX9_readsRest 38 = .ok (.aload_n 1, 1) := by decide +kernel
theorem dX9_readsRest_39 : decode cX9_readsRest 39 = .ok (.invokevirtual 88, 3) := by decide +kernel
theorem dX9_readsRest_42 : decode cX9_readsRest 42 = .ok (.invokevirtual 91, 3) := by decide +kernel
theorem dX9_readsRest_45 : decode cX9_readsRest 45 = .ok (.ireturn, 1) := by decide +kernel
theorem dX9_readsRest_46 : decode cX9_readsRest 46 = .ok (.aload_n 0, 1) := by decide +kernel
theorem dX9_readsRest_47 : decode cX9_readsRest 47 = .ok (.getfield 14, 3) := by decide +kernel
theorem dX9_readsRest_50 : decode cX9_readsRest 50 = .ok (.iconst 4, 1) := by decide +kernel
theorem dX9_readsRest_51 : decode cX9_readsRest 51 = .ok (.iload_n 3, 1) := by decide +kernel
theorem dX9_readsRest_52 : decode cX9_readsRest 52 = .ok (.i2l, 1) := by decide +kernel
theorem dX9_readsRest_53 : decode cX9_readsRest 53 = .ok (.iconst 2, 1) := by decide +kernel
theorem dX9_readsRest_54 : decode cX9_readsRest 54 = .ok (.invokevirtual 128, 3) := by decide +kernel
theorem dX9_readsRest_57 : decode cX9_readsRest 57 = .ok (.aload_n 0, 1) := by decide +kernel
theorem dX9_readsRest_58 : decode cX9_readsRest 58 = .ok (.invokevirtual 132, 3) := by decide +kernel
theorem dX9_readsRest_61 : decode cX9_readsRest 61 = .ok (.ifCond .eq 15, 3) := by decide +kernel
theorem dX9_readsRest_64 : decode cX9_readsRest 64 = .ok (.aload_n 0, 1) := by decide +kernel
theorem dX9_readsRest_65 : decode cX9_readsRest 65 = .ok (.getfield 14, 3) := by decide +kernel
theorem dX9_readsRest_68 : decode cX9_readsRest 68 = .ok (.bipush 44, 2) := by decide +kernel
theorem dX9_readsRest_70 : decode cX9_readsRest 70 = .ok (.iload_n 3, 1) := by decide +kernel
theorem dX9_readsRest_71 : decode cX9_readsRest 71 = .ok (.i2l, 1) := by decide +kernel
theorem dX9_readsRest_72 : decode cX9_readsRest 72 = .ok (.iconst 2, 1) := by decide +kernel
theorem dX9_readsRest_73 : decode cX9_readsRest 73 = .ok (.invokevirtual 128, 3) := by decide +kernel
theorem dX9_readsRest_76 : decode cX9_readsRest 76 = .ok (.aload_n 0, 1) := by decide +kernel
theorem dX9_readsRest_77 : decode cX9_readsRest 77 = .ok (.getfield 14, 3) := by decide +kernel
theorem dX9_readsRest_80 : decode cX9_readsRest 80 = .ok (.aload_n 1, 1) := by decide +kernel
theorem dX9_readsRest_81 : decode cX9_readsRest 81 = .ok (.aload_n 0, 1) := by decide +kernel
theorem dX9_readsRest_82 : decode cX9_readsRest 82 = .ok (.getfield 50, 3) := by decide +kernel
theorem dX9_readsRest_85 : decode cX9_readsRest 85 = .ok (.aload_n 1, 1) := by decide +kernel
theorem dX9_readsRest_86 : decode cX9_readsRest 86 = .ok (.invokevirtual 88, 3) := by decide +kernel
theorem dX9_readsRest_89 : decode cX9_readsRest 89 = .ok (.invokevirtual 185, 3) := by decide +kernel
theorem dX9_readsRest_92 : decode cX9_readsRest 92 = .ok (.iconst 1, 1) := by decide +kernel
theorem dX9_readsRest_93 : decode cX9_readsRest 93 = .ok (.ireturn, 1) := by decide +kernel
theorem dX10_init_0 : decode cX10_init 0 = .ok (.aload_n 0, 1) := by decide +kernel
theorem dX10_init_1 : decode cX10_init 1 = .ok (.invokespecial 1, 3) := by decide +kernel
theorem dX10_init_4 : decode cX10_init 4 = .ok (.new 7, 3) := by decide +kernel
theorem dX10_init_7 : decode cX10_init 7 = .ok (.dup, 1) := by decide +kernel
theorem dX10_init_8 : decode cX10_init 8 = .ok (.invokespecial 9, 3) := by decide +kernel
theorem dX10_init_11 : decode cX10_init 11 = .ok (.astore_n 1, 1) := by decide +kernel
theorem dX10_init_12 : decode cX10_init 12 = .ok (.new 10, 3) := by decide +kernel
theorem dX10_init_15 : decode cX10_init 15 = .ok (.dup, 1) := by decide +kernel
theorem dX10_init_16 : decode cX10_init 16 = .ok (.aload_n 1, 1) := by decide +kernel
theorem dX10_init_17 : decode cX10_init 17 = .ok (.invokespecial 12, 3) := by decide +kernel
theorem dX10_init_20 : decode cX10_init 20 = .ok (.astore_n 2, 1) := by decide +kernel
theorem dX10_init_21 : decode cX10_init 21 = .ok (.new 15, 3) := by decide +kernel
theorem dX10_init_24 : decode cX10_init 24 = .ok (.dup, 1) := by decide +kernel
theorem dX10_init_25 : decode cX10_init 25 = .ok (.aload_n 1, 1) := by decide +kernel
theorem dX10_init_26 : decode cX10_init 26 = .ok (.invokespecial 17, 3) := by decide +kernel
theorem dX10_init_29 : decode cX10_init 29 = .ok (.astore_n 3, 1) := by decide +kernel
theorem dX10_init_30 : decode cX10_init 30 = .ok (.aload_n 0, 1) := by decide +kernel
theorem dX10_init_31 : decode cX10_init 31 = .ok (.new 18, 3) := by decide +kernel
theorem dX10_init_34 : decode cX10_init 34 = .ok (.dup, 1) := by decide +kernel
theorem dX10_init_35 : decode cX10_init 35 = .ok (.sipush 640, 3) := by decide +kernel
theorem dX10_init_38 : decode cX10_init 38 = .ok (.invokespecial 22, 3) := by decide +kernel
theorem dX10_init_41 : decode cX10_init 41 = .ok (.putfield 25, 3) := by decide +kernel
theorem dX10_init_44 : decode cX10_init 44 = .ok (.aload_n 0, 1) := by decide +kernel
theorem dX10_init_45 : decode cX10_init 45 = .ok (.new 18, 3) := by decide +kernel
theorem dX10_init_48 : decode cX10_init 48 = .ok (.dup, 1) := by decide +kernel
theorem dX10_init_49 : decode cX10_init 49 = .ok (.sipush 640, 3) := by decide +kernel
theorem dX10_init_52 : decode cX10_init 52 = .ok (.invokespecial 22, 3) := by decide +kernel
theorem dX10_init_55 : decode cX10_init 55 = .ok (.putfield 29, 3) := by decide +kernel
theorem dX10_init_58 : decode cX10_init 58 = .ok (.aload_n 0, 1) := by decide +kernel
theorem dX10_init_59 : decode cX10_init 59 = .ok (.aload_n 1, 1) := by decide +kernel
theorem dX10_init_60 : decode cX10_init 60 = .ok (.putfield 32, 3) := by decide +kernel
theorem dX10_init_63 : decode cX10_init 63 = .ok (.aload_n 0, 1) := by decide +kernel
theorem dX10_init_64 : decode cX10_init 64 = .ok (.aload_n 2, 1) := by decide +kernel
theorem dX10_init_65 : decode cX10_init 65 = .ok (.putfield 36, 3) := by decide +kernel
theorem dX10_init_68 : decode cX10_init 68 = .ok (.aload_n 0, 1) := by decide +kernel
theorem dX10_init_69 : decode cX10_init 69 = .ok (.aload_n 3, 1) := by decide +kernel
theorem dX10_init_70 : decode cX10_init 70 = .ok (.putfield 40, 3) := by decide +kernel
theorem dX10_init_73 : decode cX10_init 73 = .ok (.aload_n 0, 1) := by decide +kernel
theorem dX10_init_74 : decode cX10_init 74 = .ok (.new 44, 3) := by decide +kernel
theorem dX10_init_77 : decode cX10_init 77 = .ok (.dup, 1) := by decide +kernel
theorem dX10_init_78 : decode cX10_init 78 = .ok (.invokespecial 46, 3) := by decide +kernel
theorem dX10_init_81 : decode cX10_init 81 = .ok (.putfield 47, 3) := by decide +kernel
theorem dX10_init_84 : decode cX10_init 84 = .ok (.aload_n 0, 1) := by decide +kernel
theorem dX10_init_85 : decode cX10_init 85 = .ok (.new 51, 3) := by decide +kernel
theorem dX10_init_88 : decode cX10_init 88 = .ok (.dup, 1) := by decide +kernel
theorem dX10_init_89 : decode cX10_init 89 = .ok (.aload_n 2, 1) := by decide +kernel
theorem dX10_init_90 : decode cX10_init 90 = .ok (.invokespecial 53, 3) := by decide +kernel
theorem dX10_init_93 : decode cX10_init 93 = .ok (.putfield 56, 3) := by decide +kernel
theorem dX10_init_96 : decode cX10_init 96 = .ok (.aload_n 0, 1) := by decide +kernel
theorem dX10_init_97 : decode cX10_init 97 = .ok (.new 60, 3) := by decide +kernel
theorem dX10_init_100 : decode cX10_init 100 = .ok (.dup, 1) := by decide +kernel
theorem dX10_init_101 : decode cX10_init 101 = .ok (.aload_n 3, 1) := by decide +kernel
theorem dX10_init_102 : decode cX10_init 102 = .ok (.invokespecial 62, 3) := by decide +kernel
theorem dX10_init_105 : decode cX10_init 105 = .ok (.putfield 65, 3) := by decide +kernel
theorem dX10_init_108 : decode cX10_init 108 = .ok (.aload_n 0, 1) := by decide +kernel
theorem dX10_init_109 : decode cX10_init 109 = .ok (.bipush 8, 2) := by decide +kernel
theorem dX10_init_111 : decode cX10_init 111 = .ok (.newarray .int, 2) := by decide +kernel
theorem dX10_init_113 : decode cX10_init 113 = .ok (.putfield 69, 3) := by decide +kernel
theorem dX10_init_116 : decode cX10_init 116 = .ok (.return_, 1) := by decide +kernel
theorem dX10_context_0 : decode cX10_context 0 = .ok (.iload_n 1, 1) := by decide +kernel
theorem dX10_context_1 : decode cX10_context 1 = .ok (.ifCond .lt 9, 3) := by decide +kernel
theorem dX10_context_4 : decode cX10_context 4 = .ok (.iload_n 1, 1) := by decide +kernel
theorem dX10_context_5 : decode cX10_context 5 = .ok (.bipush 16, 2) := by decide +kernel
theorem dX10_context_7 : decode cX10_context 7 = .ok (.if_icmp .lt 5, 3) := by decide +kernel
theorem dX10_context_10 : decode cX10_context 10 = .ok (.iconst (-1), 1) := by decide +kernel
theorem dX10_context_11 : decode cX10_context 11 = .ok (.ireturn, 1) := by decide +kernel
theorem dX10_context_12 : decode cX10_context 12 = .ok (.aload_n 0, 1) := by decide +kernel
theorem dX10_context_13 : decode cX10_context 13 = .ok (.getfield 32, 3) := by decide +kernel
theorem dX10_context_16 : decode cX10_context 16 = .ok (.iload_n 1, 1) := by decide +kernel
theorem dX10_context_17 : decode cX10_context 17 = .ok (.invokevirtual 73, 3) := by decide +kernel
theorem dX10_context_20 : decode cX10_context 20 = .ok (.istore 5, 2) := by decide +kernel
theorem dX10_context_22 : decode cX10_context 22 = .ok (.aload_n 0, 1) := by decide +kernel
theorem dX10_context_23 : decode cX10_context 23 = .ok (.getfield 32, 3) := by decide +kernel
theorem dX10_context_26 : decode cX10_context 26 = .ok (.iload_n 1, 1) := by decide +kernel
theorem dX10_context_27 : decode cX10_context 27 = .ok (.iload_n 2, 1) := by decide +kernel
theorem dX10_context_28 : decode cX10_context 28 = .ok (.lload_n 3, 1) := by decide +kernel
theorem dX10_context_29 : decode cX10_context 29 = .ok (.invokevirtual 77, 3) := by decide +kernel
theorem dX10_context_32 : decode cX10_context 32 = .ok (.iload 5, 2) := by decide +kernel
theorem dX10_context_34 : decode cX10_context 34 = .ok (.ifCond .eq 7, 3) := by decide +kernel
theorem dX10_context_37 : decode cX10_context 37 = .ok (.iconst 1, 1) := by decide +kernel
theorem dX10_context_38 : decode cX10_context 38 = .ok (.goto 4, 3) := by decide +kernel
theorem dX10_context_41 : decode cX10_context 41 = .ok (.iconst 0, 1) := by decide +kernel
theorem dX10_context_42 : decode cX10_context 42 = .ok (.ireturn, 1) := by decide +kernel
theorem dX10_link_0 : decode cX10_link 0 = .ok (.iload_n 1, 1) := by decide +kernel
theorem dX10_link_1 : decode cX10_link 1 = .ok (.ifCond .eq 10, 3) := by decide +kernel
theorem dX10_link_4 : decode cX10_link 4 = .ok (.iload_n 1, 1) := by decide +kernel
theorem dX10_link_5 : decode cX10_link 5 = .ok (.iconst 1, 1) := by decide +kernel
theorem dX10_link_6 : decode cX10_link 6 = .ok (.if_icmp .eq 5, 3) := by decide +kernel
theorem dX10_link_9 : decode cX10_link 9 = .ok (.iconst (-1), 1) := by decide +kernel
theorem dX10_link_10 : decode cX10_link 10 = .ok (.ireturn, 1) := by decide +kernel
theorem dX10_link_11 : decode cX10_link 11 = .ok (.aload_n 0, 1) := by decide +kernel
theorem dX10_link_12 : decode cX10_link 12 = .ok (.getfield 32, 3) := by decide +kernel
theorem dX10_link_15 : decode cX10_link 15 = .ok (.iload_n 1, 1) := by decide +kernel
theorem dX10_link_16 : decode cX10_link 16 = .ok (.iload_n 2, 1) := by decide +kernel
theorem dX10_link_17 : decode cX10_link 17 = .ok (.lload_n 3, 1) := by decide +kernel
theorem dX10_link_18 : decode cX10_link 18 = .ok (.invokevirtual 81, 3) := by decide +kernel
theorem dX10_link_21 : decode cX10_link 21 = .ok (.iconst 1, 1) := by decide +kernel
theorem dX10_link_22 : decode cX10_link 22 = .ok (.ireturn, 1) := by decide +kernel
theorem dX10_type_0 : decode cX10_type 0 = .ok (.iload_n 3, 1) := by decide +kernel
theorem dX10_type_1 : decode cX10_type 1 = .ok (.iconst 1, 1) := by decide +kernel
theorem dX10_type_2 : decode cX10_type 2 = .ok (.if_icmp .lt 9, 3) := by decide +kernel
theorem dX10_type_5 : decode cX10_type 5 = .ok (.iload_n 3, 1) := by decide +kernel
theorem dX10_type_6 : decode cX10_type 6 = .ok (.bipush 8, 2) := by decide +kernel
theorem dX10_type_8 : decode cX10_type 8 = .ok (.if_icmp .le 5, 3) := by decide +kernel
theorem dX10_type_11 : decode cX10_type 11 = .ok (.iconst (-1), 1) := by decide +kernel
theorem dX10_type_12 : decode cX10_type 12 = .ok (.ireturn, 1) := by decide +kernel
theorem dX10_type_13 : decode cX10_type 13 = .ok (.aload_n 0, 1) := by decide +kernel
theorem dX10_type_14 : decode cX10_type 14 = .ok (.getfield 25, 3) := by decide +kernel
theorem dX10_type_17 : decode cX10_type 17 = .ok (.iload_n 3, 1) := by decide +kernel
theorem dX10_type_18 : decode cX10_type 18 = .ok (.invokevirtual 84, 3) := by decide +kernel
theorem dX10_type_21 : decode cX10_type 21 = .ok (.ifCond .ne 6, 3) := by decide +kernel
theorem dX10_type_24 : decode cX10_type 24 = .ok (.bipush (-3), 2) := by decide +kernel
theorem dX10_type_26 : decode cX10_type 26 = .ok (.ireturn, 1) := by decide +kernel
theorem dX10_type_27 : decode cX10_type 27 = .ok (.aload_n 0, 1) := by decide +kernel
theorem dX10_type_28 : decode cX10_type 28 = .ok (.getfield 25, 3) := by decide +kernel
theorem dX10_type_31 : decode cX10_type 31 = .ok (.lload_n 1, 1) := by decide +kernel
theorem dX10_type_32 : decode cX10_type 32 = .ok (.iload_n 3, 1) := by decide +kernel
theorem dX10_type_33 : decode cX10_type 33 = .ok (.invokevirtual 87, 3) := by decide +kernel
theorem dX10_type_36 : decode cX10_type 36 = .ok (.aload_n 0, 1) := by decide +kernel
theorem dX10_type_37 : decode cX10_type 37 = .ok (.getfield 25, 3) := by decide +kernel
theorem dX10_type_40 : decode cX10_type 40 = .ok (.invokevirtual 91, 3) := by decide +kernel
theorem dX10_type_43 : decode cX10_type 43 = .ok (.ireturn, 1) := by decide +kernel
theorem dX10_head_0 : decode cX10_head 0 = .ok (.iload_n 1, 1) := by decide +kernel
theorem dX10_head_1 : decode cX10_head 1 = .ok (.sipush 255, 3) := by decide +kernel
theorem dX10_head_4 : decode cX10_head 4 = .ok (.invokestatic 95, 3) := by decide +kernel
theorem dX10_head_7 : decode cX10_head 7 = .ok (.ifCond .ne 44, 3) := by decide +kernel
theorem dX10_head_10 : decode cX10_head 10 = .ok (.iload_n 2, 1) := by decide +kernel
theorem dX10_head_11 : decode cX10_head 11 = .ok (.ldc 99, 2) := by decide +kernel
theorem dX10_head_13 : decode cX10_head 13 = .ok (.invokestatic 95, 3) := by decide +kernel
theorem dX10_head_16 : decode cX10_head 16 = .ok (.ifCond .ne 35, 3) := by decide +kernel
theorem dX10_head_19 : decode cX10_head 19 = .ok (.iload_n 3, 1) := by decide +kernel
theorem dX10_head_20 : decode cX10_head 20 = .ok (.sipush 560, 3) := by decide +kernel
theorem dX10_head_23 : decode cX10_head 23 = .ok (.invokestatic 95, 3) := by decide +kernel
theorem dX10_head_26 : decode cX10_head 26 = .ok (.ifCond .ne 25, 3) := by decide +kernel
theorem dX10_head_29 : decode cX10_head 29 = .ok (.iload 4, 2) := by decide +kernel
theorem dX10_head_31 : decode cX10_head 31 = .ok (.sipush 255, 3) := by decide +kernel
theorem dX10_head_34 : decode cX10_head 34 = .ok (.invokestatic 95, 3) := by decide +kernel
theorem dX10_head_37 : decode cX10_head 37 = .ok (.ifCond .ne 14, 3) := by decide +kernel
theorem dX10_head_40 : decode cX10_head 40 = .ok (.iload 5, 2) := by decide +kernel
theorem dX10_head_42 : decode cX10_head 42 = .ok (.sipush 255, 3) := by decide +kernel
theorem dX10_head_45 : decode cX10_head 45 = .ok (.invokestatic 95, 3) := by decide +kernel
theorem dX10_head_48 : decode cX10_head 48 = .ok (.ifCond .eq 5, 3) := by decide +kernel
theorem dX10_head_51 : decode cX10_head 51 = .ok (.iconst (-1), 1) := by decide +kernel
theorem dX10_head_52 : decode cX10_head 52 = .ok (.ireturn, 1) := by decide +kernel
theorem dX10_head_53 : decode cX10_head 53 = .ok (.aload_n 0, 1) := by decide +kernel
theorem dX10_head_54 : decode cX10_head 54 = .ok (.getfield 25, 3) := by decide +kernel
theorem dX10_head_57 : decode cX10_head 57 = .ok (.bipush 40, 2) := by decide +kernel
theorem dX10_head_59 : decode cX10_head 59 = .ok (.invokevirtual 84, 3) := by decide +kernel
theorem dX10_head_62 : decode cX10_head 62 = .ok (.ifCond .ne 6, 3) := by decide +kernel
theorem dX10_head_65 : decode cX10_head 65 = .ok (.bipush (-3), 2) := by decide +kernel
theorem dX10_head_67 : decode cX10_head 67 = .ok (.ireturn, 1) := by decide +kernel
theorem dX10_head_68 : decode cX10_head 68 = .ok (.aload_n 0, 1) := by decide +kernel
theorem dX10_head_69 : decode cX10_head 69 = .ok (.getfield 25, 3) := by decide +kernel
theorem dX10_head_72 : decode cX10_head 72 = .ok (.iload_n 1, 1) := by decide +kernel
theorem dX10_head_73 : decode cX10_head 73 = .ok (.iload_n 2, 1) := by decide +kernel
theorem dX10_head_74 : decode cX10_head 74 = .ok (.invokestatic 100, 3) := by decide +kernel
theorem dX10_head_77 : decode cX10_head 77 = .ok (.iconst 4, 1) := by decide +kernel
theorem dX10_head_78 : decode cX10_head 78 = .ok (.invokevirtual 87, 3) := by decide +kernel
theorem dX10_head_81 : decode cX10_head 81 = .ok (.aload_n 0, 1) := by decide +kernel
theorem dX10_head_82 : decode cX10_head 82 = .ok (.getfield 25, 3) := by decide +kernel
theorem dX10_head_85 : decode cX10_head 85 = .ok (.iload_n 3, 1) := by decide +kernel
theorem dX10_head_86 : decode cX10_head 86 = .ok (.i2l, 1) := by decide +kernel
theorem dX10_head_87 : decode cX10_head 87 = .ok (.iconst 2, 1) := by decide +kernel
theorem dX10_head_88 : decode cX10_head 88 = .ok (.invokevirtual 87, 3) := by decide +kernel
theorem dX10_head_91 : decode cX10_head 91 = .ok (.aload_n 0, 1) := by decide +kernel
theorem dX10_head_92 : decode cX10_head 92 = .ok (.getfield 25, 3) := by decide +kernel
theorem dX10_head_95 : decode cX10_head 95 = .ok (.iload 4, 2) := by decide +kernel
theorem dX10_head_97 : decode cX10_head 97 = .ok (.invokevirtual 106, 3) := by decide +kernel
theorem dX10_head_100 : decode cX10_head 100 = .ok (.aload_n 0, 1) := by decide +kernel
theorem dX10_head_101 : decode cX10_head 101 = .ok (.getfield 25, 3) := by decide +kernel
theorem dX10_head_104 : decode cX10_head 104 = .ok (.iload 5, 2) := by decide +kernel
theorem dX10_head_106 : decode cX10_head 106 = .ok (.invokevirtual 106, 3) := by decide +kernel
theorem dX10_head_109 : decode cX10_head 109 = .ok (.aload_n 0, 1) := by decide +kernel
theorem dX10_head_110 : decode cX10_head 110 = .ok (.getfield 25, 3) := by decide +kernel
theorem dX10_head_113 : decode cX10_head 113 = .ok (.lload 6, 2) := by decide +kernel
theorem dX10_head_115 : decode cX10_head 115 = .ok (.bipush 8, 2) := by decide +kernel
theorem dX10_head_117 : decode cX10_head 117 = .ok (.invokevirtual 87, 3) := by decide +kernel
theorem dX10_head_120 : decode cX10_head 120 = .ok (.aload_n 0, 1) := by decide +kernel
theorem dX10_head_121 : decode cX10_head 121 = .ok (.getfield 25, 3) := by decide +kernel
theorem dX10_head_124 : decode cX10_head 124 = .ok (.lload 8, 2) := by decide +kernel
theorem dX10_head_126 : decode cX10_head 126 = .ok (.bipush 8, 2) := by decide +kernel
theorem dX10_head_128 : decode cX10_head 128 = .ok (.invokevirtual 87, 3) := by decide +kernel
theorem dX10_head_131 : decode cX10_head 131 = .ok (.aload_n 0, 1) := by decide +kernel
theorem dX10_head_132 : decode cX10_head 132 = .ok (.getfield 25, 3) := by decide +kernel
theorem dX10_head_135 : decode cX10_head 135 = .ok (.lload 10, 2) := by decide +kernel
theorem dX10_head_137 : decode cX10_head 137 = .ok (.bipush 8, 2) := by decide +kernel
theorem dX10_head_139 : decode cX10_head 139 = .ok (.invokevirtual 87, 3) := by decide +kernel
theorem dX10_head_142 : decode cX10_head 142 = .ok (.aload_n 0, 1) := by decide +kernel
theorem dX10_head_143 : decode cX10_head 143 = .ok (.getfield 25, 3) := by decide +kernel
theorem dX10_head_146 : decode cX10_head 146 = .ok (.lload 12, 2) := by decide +kernel
theorem dX10_head_148 : decode cX10_head 148 = .ok (.bipush 8, 2) := by decide +kernel
theorem dX10_head_150 : decode cX10_head 150 = .ok (.invokevirtual 87, 3) := by decide +kernel
theorem dX10_head_153 : decode cX10_head 153 = .ok (.aload_n 0, 1) := by decide +kernel
theorem dX10_head_154 : decode cX10_head 154 = .ok (.getfield 25, 3) := by decide +kernel
theorem dX10_head_157 : decode cX10_head 157 = .ok (.invokevirtual 91, 3) := by decide +kernel
theorem dX10_head_160 : decode cX10_head 160 = .ok (.ireturn, 1) := by decide +kernel
theorem dX10_cut_0 : decode cX10_cut 0 = .ok (.aload_n 0, 1) := by decide +kernel
theorem dX10_cut_1 : decode cX10_cut 1 = .ok (.getfield 25, 3) := by decide +kernel
theorem dX10_cut_4 : decode cX10_cut 4 = .ok (.invokevirtual 91, 3) := by decide +kernel
theorem dX10_cut_7 : decode cX10_cut 7 = .ok (.istore_n 2, 1) := by decide +kernel
theorem dX10_cut_8 : decode cX10_cut 8 = .ok (.iload_n 1, 1) := by decide +kernel
theorem dX10_cut_9 : decode cX10_cut 9 = .ok (.iload_n 2, 1) := by decide +kernel
theorem dX10_cut_10 : decode cX10_cut 10 = .ok (.invokestatic 95, 3) := by decide +kernel
theorem dX10_cut_13 : decode cX10_cut 13 = .ok (.ifCond .eq 5, 3) := by decide +kernel
theorem dX10_cut_16 : decode cX10_cut 16 = .ok (.iconst (-1), 1) := by decide +kernel
theorem dX10_cut_17 : decode cX10_cut 17 = .ok (.ireturn, 1) := by decide +kernel
theorem dX10_cut_18 : decode cX10_cut 18 = .ok (.aload_n 0, 1) := by decide +kernel
theorem dX10_cut_19 : decode cX10_cut 19 = .ok (.getfield 25, 3) := by decide +kernel
theorem dX10_cut_22 : decode cX10_cut 22 = .ok (.iload_n 1, 1) := by decide +kernel
theorem dX10_cut_23 : decode cX10_cut 23 = .ok (.invokevirtual 109, 3) := by decide +kernel
theorem dX10_cut_26 : decode cX10_cut 26 = .ok (.iload_n 2, 1) := by decide +kernel
theorem dX10_cut_27 : decode cX10_cut 27 = .ok (.iload_n 1, 1) := by decide +kernel
theorem dX10_cut_28 : decode cX10_cut 28 = .ok (.isub, 1) := by decide +kernel
theorem dX10_cut_29 : decode cX10_cut 29 = .ok (.ireturn, 1) := by decide +kernel
theorem dX10_poke_0 : decode cX10_poke 0 = .ok (.aload_n 0, 1) := by decide +kernel
theorem dX10_poke_1 : decode cX10_poke 1 = .ok (.getfield 25, 3) := by decide +kernel
theorem dX10_poke_4 : decode cX10_poke 4 = .ok (.iload_n 1, 1) := by decide +kernel
theorem dX10_poke_5 : decode cX10_poke 5 = .ok (.invokevirtual 112, 3) := by decide +kernel
theorem dX10_poke_8 : decode cX10_poke 8 = .ok (.ifCond .eq 15, 3) := by decide +kernel
theorem dX10_poke_11 : decode cX10_poke 11 = .ok (.aload_n 0, 1) := by decide +kernel
theorem dX10_poke_12 : decode cX10_poke 12 = .ok (.getfield 25, 3) := by decide +kernel
theorem dX10_poke_15 : decode cX10_poke 15 = .ok (.iload_n 1, 1) := by decide +kernel
theorem dX10_poke_16 : decode cX10_poke 16 = .ok (.iload_n 2, 1) := by decide +kernel
theorem dX10_poke_17 : decode cX10_poke 17 = .ok (.invokevirtual 115, 3) := by decide +kernel
theorem dX10_poke_20 : decode cX10_poke 20 = .ok (.goto 4, 3) := by decide +kernel
theorem dX10_poke_23 : decode cX10_poke 23 = .ok (.iconst (-1), 1) := by decide +kernel
theorem dX10_poke_24 : decode cX10_poke 24 = .ok (.ireturn, 1) := by decide +kernel
theorem dX10_take_0 : decode cX10_take 0 = .ok (.aload_n 0, 1) := by decide +kernel
theorem dX10_take_1 : decode cX10_take 1 = .ok (.getfield 25, 3) := by decide +kernel
theorem dX10_take_4 : decode cX10_take 4 = .ok (.aload_n 0, 1) := by decide +kernel
theorem dX10_take_5 : decode cX10_take 5 = .ok (.getfield 29, 3) := by decide +kernel
theorem dX10_take_8 : decode cX10_take 8 = .ok (.invokevirtual 119, 3) := by decide +kernel
theorem dX10_take_11 : decode cX10_take 11 = .ok (.aload_n 0, 1) := by decide +kernel
theorem dX10_take_12 : decode cX10_take 12 = .ok (.getfield 25, 3) := by decide +kernel
theorem dX10_take_15 : decode cX10_take 15 = .ok (.invokevirtual 91, 3) := by decide +kernel
theorem dX10_take_18 : decode cX10_take 18 = .ok (.ireturn, 1) := by decide +kernel
theorem dX10_out_0 : decode cX10_out 0 = .ok (.aload_n 0, 1) := by decide +kernel
theorem dX10_out_1 : decode cX10_out 1 = .ok (.getfield 29, 3) := by decide +kernel
theorem dX10_out_4 : decode cX10_out 4 = .ok (.iload_n 1, 1) := by decide +kernel
theorem dX10_out_5 : decode cX10_out 5 = .ok (.invokestatic 123, 3) := by decide +kernel
theorem dX10_out_8 : decode cX10_out 8 = .ok (.ireturn, 1) := by decide +kernel
theorem dX10_squeeze_0 : decode cX10_squeeze 0 = .ok (.aload_n 0, 1) := by decide +kernel
theorem dX10_squeeze_1 : decode cX10_squeeze 1 = .ok (.getfield 25, 3) := by decide +kernel
theorem dX10_squeeze_4 : decode cX10_squeeze 4 = .ok (.invokestatic 127, 3) := by decide +kernel
theorem dX10_squeeze_7 : decode cX10_squeeze 7 = .ok (.ifCond .ne 6, 3) := by decide +kernel
theorem dX10_squeeze_10 : decode cX10_squeeze 10 = .ok (.bipush (-2), 2) := by decide +kernel
theorem dX10_squeeze_12 : decode cX10_squeeze 12 = .ok (.ireturn, 1) := by decide +kernel
theorem dX10_squeeze_13 : decode cX10_squeeze 13 = .ok (.aload_n 0, 1) := by decide +kernel
theorem dX10_squeeze_14 : decode cX10_squeeze 14 = .ok (.getfield 36, 3) := by decide +kernel
theorem dX10_squeeze_17 : decode cX10_squeeze 17 = .ok (.aload_n 0, 1) := by decide +kernel
theorem dX10_squeeze_18 : decode cX10_squeeze 18 = .ok (.getfield 25, 3) := by decide +kernel
theorem dX10_squeeze_21 : decode cX10_squeeze 21 = .ok (.aload_n 0, 1) := by decide +kernel
theorem dX10_squeeze_22 : decode cX10_squeeze 22 = .ok (.getfield 29, 3) := by decide +kernel
theorem dX10_squeeze_25 : decode cX10_squeeze 25 = .ok (.invokevirtual 131, 3) := by decide +kernel
theorem dX10_squeeze_28 : decode cX10_squeeze 28 = .ok (.pop, 1) := by decide +kernel
theorem dX10_squeeze_29 : decode cX10_squeeze 29 = .ok (.aload_n 0, 1) := by decide +kernel
theorem dX10_squeeze_30 : decode cX10_squeeze 30 = .ok (.getfield 29, 3) := by decide +kernel
theorem dX10_squeeze_33 : decode cX10_squeeze 33 = .ok (.invokevirtual 91, 3) := by decide +kernel
theorem dX10_squeeze_36 : decode cX10_squeeze 36 = .ok (.ireturn, 1) := by decide +kernel
theorem dX10_unfold_0 : decode cX10_unfold 0 = .ok (.aload_n 0, 1) := by decide +kernel
theorem dX10_unfold_1 : decode cX10_unfold 1 = .ok (.getfield 40, 3) := by decide +kernel
theorem dX10_unfold_4 : decode cX10_unfold 4 = .ok (.aload_n 0, 1) := by decide +kernel
theorem dX10_unfold_5 : decode cX10_unfold 5 = .ok (.getfield 25, 3) := by decide +kernel
theorem dX10_unfold_8 : decode cX10_unfold 8 = .ok (.iconst 0, 1) := by decide +kernel
theorem dX10_unfold_9 : decode cX10_unfold 9 = .ok (.iconst (-1), 1) := by decide +kernel
theorem dX10_unfold_10 : decode cX10_unfold 10 = .ok (.invokevirtual 135, 3) := by decide +kernel
theorem dX10_unfold_13 : decode cX10_unfold 13 = .ok (.istore_n 1, 1) := by decide +kernel
theorem dX10_unfold_14 : decode cX10_unfold 14 = .ok (.aload_n 0, 1) := by decide +kernel
theorem dX10_unfold_15 : decode cX10_unfold 15 = .ok (.getfield 40, 3) := by decide +kernel
theorem dX10_unfold_18 : decode cX10_unfold 18 = .ok (.aload_n 0, 1) := by decide +kernel
theorem dX10_unfold_19 : decode cX10_unfold 19 = .ok (.getfield 69, 3) := by decide +kernel
theorem dX10_unfold_22 : decode cX10_unfold 22 = .ok (.invokevirtual 139, 3) := by decide +kernel
theorem dX10_unfold_25 : decode cX10_unfold 25 = .ok (.iload_n 1, 1) := by decide +kernel
theorem dX10_unfold_26 : decode cX10_unfold 26 = .ok (.ifCond .ne 14, 3) := by decide +kernel
theorem dX10_unfold_29 : decode cX10_unfold 29 = .ok (.bipush (-10), 2) := by decide +kernel
theorem dX10_unfold_31 : decode cX10_unfold 31 = .ok (.aload_n 0, 1) := by decide +kernel
theorem dX10_unfold_32 : decode cX10_unfold 32 = .ok (.getfield 40, 3) := by decide +kernel
theorem dX10_unfold_35 : decode cX10_unfold 35 = .ok (.invokevirtual 143, 3) := by decide +kernel
theorem dX10_unfold_38 : decode cX10_unfold 38 = .ok (.isub, 1) := by decide +kernel
theorem dX10_unfold_39 : decode cX10_unfold 39 = .ok (.ireturn, 1) := by decide +kernel
theorem dX10_unfold_40 : decode cX10_unfold 40 = .ok (.aload_n 0, 1) := by decide +kernel
theorem dX10_unfold_41 : decode cX10_unfold 41 = .ok (.getfield 29, 3) := by decide +kernel
theorem dX10_unfold_44 : decode cX10_unfold 44 = .ok (.aload_n 0, 1) := by decide +kernel
theorem dX10_unfold_45 : decode cX10_unfold 45 = .ok (.getfield 40, 3) := by decide +kernel
theorem dX10_unfold_48 : decode cX10_unfold 48 = .ok (.invokevirtual 146, 3) := by decide +kernel
theorem dX10_unfold_51 : decode cX10_unfold 51 = .ok (.invokevirtual 119, 3) := by decide +kernel
theorem dX10_unfold_54 : decode cX10_unfold 54 = .ok (.aload_n 0, 1) := by decide +kernel
theorem dX10_unfold_55 : decode cX10_unfold 55 = .ok (.getfield 29, 3) := by decide +kernel
theorem dX10_unfold_58 : decode cX10_unfold 58 = .ok (.invokevirtual 91, 3) := by decide +kernel
theorem dX10_unfold_61 : decode cX10_unfold 61 = .ok (.ireturn, 1) := by decide +kernel
theorem dX10_told_0 : decode cX10_told 0 = .ok (.iload_n 1, 1) := by decide +kernel
theorem dX10_told_1 : decode cX10_told 1 = .ok (.ifCond .lt 12, 3) := by decide +kernel
theorem dX10_told_4 : decode cX10_told 4 = .ok (.iload_n 1, 1) := by decide +kernel
theorem dX10_told_5 : decode cX10_told 5 = .ok (.aload_n 0, 1) := by decide +kernel
theorem dX10_told_6 : decode cX10_told 6 = .ok (.getfield 69, 3) := by decide +kernel
theorem dX10_told_9 : decode cX10_told 9 = .ok (.arraylength, 1) := by decide +kernel
theorem dX10_told_10 : decode cX10_told 10 = .ok (.if_icmp .lt 5, 3) := by decide +kernel
theorem dX10_told_13 : decode cX10_told 13 = .ok (.iconst (-1), 1) := by decide +kernel
theorem dX10_told_14 : decode cX10_told 14 = .ok (.ireturn, 1) := by decide +kernel
theorem dX10_told_15 : decode cX10_told 15 = .ok (.aload_n 0, 1) := by decide +kernel
theorem dX10_told_16 : decode cX10_told 16 = .ok (.getfield 69, 3) := by decide +kernel
theorem dX10_told_19 : decode cX10_told 19 = .ok (.iload_n 1, 1) := by decide +kernel
theorem dX10_told_20 : decode cX10_told 20 = .ok (.iaload, 1) := by decide +kernel
theorem dX10_told_21 : decode cX10_told 21 = .ok (.ireturn, 1) := by decide +kernel
theorem dX10_slice_0 : decode cX10_slice 0 = .ok (.iload_n 1, 1) := by decide +kernel
theorem dX10_slice_1 : decode cX10_slice 1 = .ok (.bipush 40, 2) := by decide +kernel
theorem dX10_slice_3 : decode cX10_slice 3 = .ok (.if_icmp .lt 18, 3) := by decide +kernel
theorem dX10_slice_6 : decode cX10_slice 6 = .ok (.iload_n 1, 1) := by decide +kernel
theorem dX10_slice_7 : decode cX10_slice 7 = .ok (.bipush 120, 2) := by decide +kernel
theorem dX10_slice_9 : decode cX10_slice 9 = .ok (.if_icmp .gt 12, 3) := by decide +kernel
theorem dX10_slice_12 : decode cX10_slice 12 = .ok (.iload_n 2, 1) := by decide +kernel
theorem dX10_slice_13 : decode cX10_slice 13 = .ok (.ldc 150, 2) := by decide +kernel
theorem dX10_slice_15 : decode cX10_slice 15 = .ok (.invokestatic 95, 3) := by decide +kernel
theorem dX10_slice_18 : decode cX10_slice 18 = .ok (.ifCond .eq 5, 3) := by decide +kernel
theorem dX10_slice_21 : decode cX10_slice 21 = .ok (.iconst (-1), 1) := by decide +kernel
theorem dX10_slice_22 : decode cX10_slice 22 = .ok (.ireturn, 1) := by decide +kernel
theorem dX10_slice_23 : decode cX10_slice 23 = .ok (.aload_n 0, 1) := by decide +kernel
theorem dX10_slice_24 : decode cX10_slice 24 = .ok (.getfield 25, 3) := by decide +kernel
theorem dX10_slice_27 : decode cX10_slice 27 = .ok (.invokestatic 127, 3) := by decide +kernel
theorem dX10_slice_30 : decode cX10_slice 30 = .ok (.ifCond .ne 6, 3) := by decide +kernel
theorem dX10_slice_33 : decode cX10_slice 33 = .ok (.bipush (-2), 2) := by decide +kernel
theorem dX10_slice_35 : decode cX10_slice 35 = .ok (.ireturn, 1) := by decide +kernel
theorem dX10_slice_36 : decode cX10_slice 36 = .ok (.aload_n 0, 1) := by decide +kernel
theorem dX10_slice_37 : decode cX10_slice 37 = .ok (.getfield 56, 3) := by decide +kernel
theorem dX10_slice_40 : decode cX10_slice 40 = .ok (.aload_n 0, 1) := by decide +kernel
theorem dX10_slice_41 : decode cX10_slice 41 = .ok (.getfield 25, 3) := by decide +kernel
theorem dX10_slice_44 : decode cX10_slice 44 = .ok (.iload_n 1, 1) := by decide +kernel
theorem dX10_slice_45 : decode cX10_slice 45 = .ok (.iload_n 2, 1) := by decide +kernel
theorem dX10_slice_46 : decode cX10_slice 46 = .ok (.aload_n 0, 1) := by decide +kernel
theorem dX10_slice_47 : decode cX10_slice 47 = .ok (.getfield 47, 3) := by decide +kernel
theorem dX10_slice_50 : decode cX10_slice 50 = .ok (.invokevirtual 151, 3) := by decide +kernel
theorem dX10_slice_53 : decode cX10_slice 53 = .ok (.ireturn, 1) := by decide +kernel
theorem dX10_frame_0 : decode cX10_frame 0 = .ok (.aload_n 0, 1) := by decide +kernel
theorem dX10_frame_1 : decode cX10_frame 1 = .ok (.getfield 47, 3) := by decide +kernel
theorem dX10_frame_4 : decode cX10_frame 4 = .ok (.iload_n 1, 1) := by decide +kernel
theorem dX10_frame_5 : decode cX10_frame 5 = .ok (.invokevirtual 155, 3) := by decide +kernel
theorem dX10_frame_8 : decode cX10_frame 8 = .ok (.ifCond .eq 18, 3) := by decide +kernel
theorem dX10_frame_11 : decode cX10_frame 11 = .ok (.aload_n 0, 1) := by decide +kernel
theorem dX10_frame_12 : decode cX10_frame 12 = .ok (.getfield 47, 3) := by decide +kernel
theorem dX10_frame_15 : decode cX10_frame 15 = .ok (.iload_n 1, 1) := by decide +kernel
theorem dX10_frame_16 : decode cX10_frame 16 = .ok (.invokevirtual 156, 3) := by decide +kernel
theorem dX10_frame_19 : decode cX10_frame 19 = .ok (.iload_n 2, 1) := by decide +kernel
theorem dX10_frame_20 : decode cX10_frame 20 = .ok (.invokestatic 123, 3) := by decide +kernel
theorem dX10_frame_23 : decode cX10_frame 23 = .ok (.goto 4, 3) := by decide +kernel
theorem dX10_frame_26 : decode cX10_frame 26 = .ok (.iconst (-1), 1) := by decide +kernel
theorem dX10_frame_27 : decode cX10_frame 27 = .ok (.ireturn, 1) := by decide +kernel
theorem dX10_spoil_0 : decode cX10_spoil 0 = .ok (.aload_n 0, 1) := by decide +kernel
theorem dX10_spoil_1 : decode cX10_spoil 1 = .ok (.getfield 47, 3) := by decide +kernel
theorem dX10_spoil_4 : decode cX10_spoil 4 = .ok (.iload_n 1, 1) := by decide +kernel
theorem dX10_spoil_5 : decode cX10_spoil 5 = .ok (.invokevirtual 155, 3) := by decide +kernel
theorem dX10_spoil_8 : decode cX10_spoil 8 = .ok (.ifCond .eq 18, 3) := by decide +kernel
theorem dX10_spoil_11 : decode cX10_spoil 11 = .ok (.aload_n 0, 1) := by decide +kernel
theorem dX10_spoil_12 : decode cX10_spoil 12 = .ok (.getfield 47, 3) := by decide +kernel
theorem dX10_spoil_15 : decode cX10_spoil 15 = .ok (.iload_n 1, 1) := by decide +kernel
theorem dX10_spoil_16 : decode cX10_spoil 16 = .ok (.invokevirtual 156, 3) := by decide +kernel
theorem dX10_spoil_19 : decode cX10_spoil 19 = .ok (.iload_n 2, 1) := by decide +kernel
theorem dX10_spoil_20 : decode cX10_spoil 20 = .ok (.invokevirtual 112, 3) := by decide +kernel
theorem dX10_spoil_23 : decode cX10_spoil 23 = .ok (.ifCond .ne 5, 3) := by decide +kernel
theorem dX10_spoil_26 : decode cX10_spoil 26 = .ok (.iconst (-1), 1) := by decide +kernel
theorem dX10_spoil_27 : decode cX10_spoil 27 = .ok (.ireturn, 1) := by decide +kernel
theorem dX10_spoil_28 : decode cX10_spoil 28 = .ok (.aload_n 0, 1) := by decide +kernel
theorem dX10_spoil_29 : decode cX10_spoil 29 = .ok (.getfield 47, 3) := by decide +kernel
theorem dX10_spoil_32 : decode cX10_spoil 32 = .ok (.iload_n 1, 1) := by decide +kernel
theorem dX10_spoil_33 : decode cX10_spoil 33 = .ok (.invokevirtual 156, 3) := by decide +kernel
theorem dX10_spoil_36 : decode cX10_spoil 36 = .ok (.iload_n 2, 1) := by decide +kernel
theorem dX10_spoil_37 : decode cX10_spoil 37 = .ok (.iload_n 3, 1) := by decide +kernel
theorem dX10_spoil_38 : decode cX10_spoil 38 = .ok (.invokevirtual 115, 3) := by decide +kernel
theorem dX10_spoil_41 : decode cX10_spoil 41 = .ok (.ireturn, 1) := by decide +kernel
theorem dX10_put_0 : decode cX10_put 0 = .ok (.iload_n 1, 1) := by decide +kernel
theorem dX10_put_1 : decode cX10_put 1 = .ok (.aload_n 0, 1) := by decide +kernel
theorem dX10_put_2 : decode cX10_put 2 = .ok (.getfield 47, 3) := by decide +kernel
theorem dX10_put_5 : decode cX10_put 5 = .ok (.invokevirtual 160, 3) := by decide +kernel
theorem dX10_put_8 : decode cX10_put 8 = .ok (.invokestatic 95, 3) := by decide +kernel
theorem dX10_put_11 : decode cX10_put 11 = .ok (.ifCond .eq 5, 3) := by decide +kernel
theorem dX10_put_14 : decode cX10_put 14 = .ok (.iconst (-1), 1) := by decide +kernel
theorem dX10_put_15 : decode cX10_put 15 = .ok (.ireturn, 1) := by decide +kernel
theorem dX10_put_16 : decode cX10_put 16 = .ok (.aload_n 0, 1) := by decide +kernel
theorem dX10_put_17 : decode cX10_put 17 = .ok (.getfield 25, 3) := by decide +kernel
theorem dX10_put_20 : decode cX10_put 20 = .ok (.invokevirtual 91, 3) := by decide +kernel
theorem dX10_put_23 : decode cX10_put 23 = .ok (.ifCond .eq 15, 3) := by decide +kernel
theorem dX10_put_26 : decode cX10_put 26 = .ok (.aload_n 0, 1) := by decide +kernel
theorem dX10_put_27 : decode cX10_put 27 = .ok (.getfield 25, 3) := by decide +kernel
theorem dX10_put_30 : decode cX10_put 30 = .ok (.invokevirtual 91, 3) := by decide +kernel
theorem dX10_put_33 : decode cX10_put 33 = .ok (.bipush 120, 2) := by decide +kernel
theorem dX10_put_35 : decode cX10_put 35 = .ok (.if_icmp .le 6, 3) := by decide +kernel
theorem dX10_put_38 : decode cX10_put 38 = .ok (.bipush (-2), 2) := by decide +kernel
theorem dX10_put_40 : decode cX10_put 40 = .ok (.ireturn, 1) := by decide +kernel
theorem dX10_put_41 : decode cX10_put 41 = .ok (.aload_n 0, 1) := by decide +kernel
theorem dX10_put_42 : decode cX10_put 42 = .ok (.getfield 47, 3) := by decide +kernel
theorem dX10_put_45 : decode cX10_put 45 = .ok (.iload_n 1, 1) := by decide +kernel
theorem dX10_put_46 : decode cX10_put 46 = .ok (.aload_n 0, 1) := by decide +kernel
theorem dX10_put_47 : decode cX10_put 47 = .ok (.getfield 25, 3) := by decide +kernel
theorem dX10_put_50 : decode cX10_put 50 = .ok (.invokevirtual 163, 3) := by decide +kernel
theorem dX10_put_53 : decode cX10_put 53 = .ok (.ifCond .eq 13, 3) := by decide +kernel
theorem dX10_put_56 : decode cX10_put 56 = .ok (.aload_n 0, 1) := by decide +kernel
theorem dX10_put_57 : decode cX10_put 57 = .ok (.getfield 47, 3) := by decide +kernel
theorem dX10_put_60 : decode cX10_put 60 = .ok (.invokevirtual 160, 3) := by decide +kernel
theorem dX10_put_63 : decode cX10_put 63 = .ok (.goto 5, 3) := by decide +kernel
theorem dX10_put_66 : decode cX10_put 66 = .ok (.bipush (-3), 2) := by decide +kernel
theorem dX10_put_68 : decode cX10_put 68 = .ok (.ireturn, 1) := by decide +kernel
theorem dX10_hear_0 : decode cX10_hear 0 = .ok (.aload_n 0, 1) := by decide +kernel
theorem dX10_hear_1 : decode cX10_hear 1 = .ok (.getfield 47, 3) := by decide +kernel
theorem dX10_hear_4 : decode cX10_hear 4 = .ok (.iload_n 1, 1) := by decide +kernel
theorem dX10_hear_5 : decode cX10_hear 5 = .ok (.invokevirtual 155, 3) := by decide +kernel
theorem dX10_hear_8 : decode cX10_hear 8 = .ok (.ifCond .eq 25, 3) := by decide +kernel
theorem dX10_hear_11 : decode cX10_hear 11 = .ok (.aload_n 0, 1) := by decide +kernel
theorem dX10_hear_12 : decode cX10_hear 12 = .ok (.getfield 65, 3) := by decide +kernel
theorem dX10_hear_15 : decode cX10_hear 15 = .ok (.aload_n 0, 1) := by decide +kernel
theorem dX10_hear_16 : decode cX10_hear 16 = .ok (.getfield 47, 3) := by decide +kernel
theorem dX10_hear_19 : decode cX10_hear 19 = .ok (.iload_n 1, 1) := by decide +kernel
theorem dX10_hear_20 : decode cX10_hear 20 = .ok (.invokevirtual 156, 3) := by decide +kernel
theorem dX10_hear_23 : decode cX10_hear 23 = .ok (.aload_n 0, 1) := by decide +kernel
theorem dX10_hear_24 : decode cX10_hear 24 = .ok (.getfield 29, 3) := by decide +kernel
theorem dX10_hear_27 : decode cX10_hear 27 = .ok (.invokevirtual 167, 3) := by decide +kernel
theorem dX10_hear_30 : decode cX10_hear 30 = .ok (.goto 4, 3) := by decide +kernel
theorem dX10_hear_33 : decode cX10_hear 33 = .ok (.iconst (-1), 1) := by decide +kernel
theorem dX10_hear_34 : decode cX10_hear 34 = .ok (.ireturn, 1) := by decide +kernel
theorem dX10_pass_0 : decode cX10_pass 0 = .ok (.iload_n 1, 1) := by decide +kernel
theorem dX10_pass_1 : decode cX10_pass 1 = .ok (.sipush 1000, 3) := by decide +kernel
theorem dX10_pass_4 : decode cX10_pass 4 = .ok (.invokestatic 95, 3) := by decide +kernel
theorem dX10_pass_7 : decode cX10_pass 7 = .ok (.ifCond .eq 7, 3) := by decide +kernel
theorem dX10_pass_10 : decode cX10_pass 10 = .ok (.iconst (-1), 1) := by decide +kernel
theorem dX10_pass_11 : decode cX10_pass 11 = .ok (.goto 11, 3) := by decide +kernel
theorem dX10_pass_14 : decode cX10_pass 14 = .ok (.aload_n 0, 1) := by decide +kernel
theorem dX10_pass_15 : decode cX10_pass 15 = .ok (.getfield 65, 3) := by decide +kernel
theorem dX10_pass_18 : decode cX10_pass 18 = .ok (.iload_n 1, 1) := by decide +kernel
theorem dX10_pass_19 : decode cX10_pass 19 = .ok (.invokevirtual 170, 3) := by decide +kernel
theorem dX10_pass_22 : decode cX10_pass 22 = .ok (.ireturn, 1) := by decide +kernel
theorem dX10_count_0 : decode cX10_count 0 = .ok (.iload_n 1, 1) := by decide +kernel
theorem dX10_count_1 : decode cX10_count 1 = .ok (.tableswitch 123 0 8 #[51, 59, 67, 75, 83, 91, 99, 107, 115], 51) := by decide +kernel
theorem dX10_count_52 : decode cX10_count 52 = .ok (.aload_n 0, 1) := by decide +kernel
theorem dX10_count_53 : decode cX10_count 53 = .ok (.getfield 65, 3) := by decide +kernel
theorem dX10_count_56 : decode cX10_count 56 = .ok (.invokevirtual 174, 3) := by decide +kernel
theorem dX10_count_59 : decode cX10_count 59 = .ok (.ireturn, 1) := by decide +kernel
theorem dX10_count_60 : decode cX10_count 60 = .ok (.aload_n 0, 1) := by decide +kernel
theorem dX10_count_61 : decode cX10_count 61 = .ok (.getfield 65, 3) := by decide +kernel
theorem dX10_count_64 : decode cX10_count 64 = .ok (.invokevirtual 177, 3) := by decide +kernel
theorem dX10_count_67 : decode cX10_count 67 = .ok (.ireturn, 1) := by decide +kernel
theorem dX10_count_68 : decode cX10_count 68 = .ok (.aload_n 0, 1) := by decide +kernel
theorem dX10_count_69 : decode cX10_count 69 = .ok (.getfield 65, 3) := by decide +kernel
theorem dX10_count_72 : decode cX10_count 72 = .ok (.invokevirtual 180, 3) := by decide +kernel
theorem dX10_count_75 : decode cX10_count 75 = .ok (.ireturn, 1) := by decide +kernel
theorem dX10_count_76 : decode cX10_count 76 = .ok (.aload_n 0, 1) := by decide +kernel
theorem dX10_count_77 : decode cX10_count 77 = .ok (.getfield 47, 3) := by decide +kernel
theorem dX10_count_80 : decode cX10_count 80 = .ok (.invokevirtual 160, 3) := by decide +kernel
theorem dX10_count_83 : decode cX10_count 83 = .ok (.ireturn, 1) := by decide +kernel
theorem dX10_count_84 : decode cX10_count 84 = .ok (.aload_n 0, 1) := by decide +kernel
theorem dX10_count_85 : decode cX10_count 85 = .ok (.getfield 65, 3) := by decide +kernel
theorem dX10_count_88 : decode cX10_count 88 = .ok (.getfield 183, 3) := by decide +kernel
theorem dX10_count_91 : decode cX10_count 91 = .ok (.ireturn, 1) := by decide +kernel
theorem dX10_count_92 : decode cX10_count 92 = .ok (.aload_n 0, 1) := by decide +kernel
theorem dX10_count_93 : decode cX10_count 93 = .ok (.getfield 65, 3) := by decide +kernel
theorem dX10_count_96 : decode cX10_count 96 = .ok (.getfield 187, 3) := by decide +kernel
theorem dX10_count_99 : decode cX10_count 99 = .ok (.ireturn, 1) := by decide +kernel
theorem dX10_count_100 : decode cX10_count 100 = .ok (.aload_n 0, 1) := by decide +kernel
theorem dX10_count_101 : decode cX10_count 101 = .ok (.getfield 65, 3) := by decide +kernel
theorem dX10_count_104 : decode cX10_count 104 = .ok (.getfield 190, 3) := by decide +kernel
theorem dX10_count_107 : decode cX10_count 107 = .ok (.ireturn, 1) := by decide +kernel
theorem dX10_count_108 : decode cX10_count 108 = .ok (.aload_n 0, 1) := by decide +kernel
theorem dX10_count_109 : decode cX10_count 109 = .ok (.getfield 65, 3) := by decide +kernel
theorem dX10_count_112 : decode cX10_count 112 = .ok (.getfield 193, 3) := by decide +kernel
theorem dX10_count_115 : decode cX10_count 115 = .ok (.ireturn, 1) := by decide +kernel
theorem dX10_count_116 : decode cX10_count 116 = .ok (.aload_n 0, 1) := by decide +kernel
theorem dX10_count_117 : decode cX10_count 117 = .ok (.getfield 65, 3) := by decide +kernel
theorem dX10_count_120 : decode cX10_count 120 = .ok (.getfield 196, 3) := by decide +kernel
theorem dX10_count_123 : decode cX10_count 123 = .ok (.ireturn, 1) := by decide +kernel
theorem dX10_count_124 : decode cX10_count 124 = .ok (.iconst (-1), 1) := by decide +kernel
theorem dX10_count_125 : decode cX10_count 125 = .ok (.ireturn, 1) := by decide +kernel
theorem dX10_isOutside_0 : decode cX10_isOutside 0 = .ok (.iload_n 0, 1) := by decide +kernel
theorem dX10_isOutside_1 : decode cX10_isOutside 1 = .ok (.ifCond .lt 8, 3) := by decide +kernel
theorem dX10_isOutside_4 : decode cX10_isOutside 4 = .ok (.iload_n 0, 1) := by decide +kernel
theorem dX10_isOutside_5 : decode cX10_isOutside 5 = .ok (.iload_n 1, 1) := by decide +kernel
theorem dX10_isOutside_6 : decode cX10_isOutside 6 = .ok (.if_icmp .le 7, 3) := by decide +kernel
theorem dX10_isOutside_9 : decode cX10_isOutside 9 = .ok (.iconst 1, 1) := by decide +kernel
theorem dX10_isOutside_10 : decode cX10_isOutside 10 = .ok (.goto 4, 3) := by decide +kernel
theorem dX10_isOutside_13 : decode cX10_isOutside 13 = .ok (.iconst 0, 1) := by decide +kernel
theorem dX10_isOutside_14 : decode cX10_isOutside 14 = .ok (.ireturn, 1) := by decide +kernel
theorem dX10_byteOrLength_0 : decode cX10_byteOrLength 0 = .ok (.iload_n 1, 1) := by decide +kernel
theorem dX10_byteOrLength_1 : decode cX10_byteOrLength 1 = .ok (.iconst (-1), 1) := by decide +kernel
theorem dX10_byteOrLength_2 : decode cX10_byteOrLength 2 = .ok (.if_icmp .ne 8, 3) := by decide +kernel
theorem dX10_byteOrLength_5 : decode cX10_byteOrLength 5 = .ok (.aload_n 0, 1) := by decide +kernel
theorem dX10_byteOrLength_6 : decode cX10_byteOrLength 6 = .ok (.invokevirtual 91, 3) := by decide +kernel
theorem dX10_byteOrLength_9 : decode cX10_byteOrLength 9 = .ok (.ireturn, 1) := by decide +kernel
theorem dX10_byteOrLength_10 : decode cX10_byteOrLength 10 = .ok (.aload_n 0, 1) := by decide +kernel
theorem dX10_byteOrLength_11 : decode cX10_byteOrLength 11 = .ok (.iload_n 1, 1) := by decide +kernel
theorem dX10_byteOrLength_12 : decode cX10_byteOrLength 12 = .ok (.invokevirtual 112, 3) := by decide +kernel
theorem dX10_byteOrLength_15 : decode cX10_byteOrLength 15 = .ok (.ifCond .eq 11, 3) := by decide +kernel
theorem dX10_byteOrLength_18 : decode cX10_byteOrLength 18 = .ok (.aload_n 0, 1) := by decide +kernel
theorem dX10_byteOrLength_19 : decode cX10_byteOrLength 19 = .ok (.iload_n 1, 1) := by decide +kernel
theorem dX10_byteOrLength_20 : decode cX10_byteOrLength 20 = .ok (.invokevirtual 199, 3) := by decide +kernel
theorem dX10_byteOrLength_23 : decode cX10_byteOrLength 23 = .ok (.goto 4, 3) := by decide +kernel
theorem dX10_byteOrLength_26 : decode cX10_byteOrLength 26 = .ok (.iconst (-1), 1) := by decide +kernel
theorem dX10_byteOrLength_27 : decode cX10_byteOrLength 27 = .ok (.ireturn, 1) := by decide +kernel
theorem dX11_in_0 : decode cX11_in 0 = .ok (.iload_n 0, 1) := by decide +kernel
theorem dX11_in_1 : decode cX11_in 1 = .ok (.iload_n 1, 1) := by decide +kernel
theorem dX11_in_2 : decode cX11_in 2 = .ok (.if_icmp .lt 12, 3) := by decide +kernel
theorem dX11_in_5 : decode cX11_in 5 = .ok (.iload_n 0, 1) := by decide +kernel
theorem dX11_in_6 : decode cX11_in 6 = .ok (.iload_n 2, 1) := by decide +kernel
theorem dX11_in_7 : decode cX11_in 7 = .ok (.if_icmp .gt 7, 3) := by decide +kernel
theorem dX11_in_10 : decode cX11_in 10 = .ok (.iconst 1, 1) := by decide +kernel
theorem dX11_in_11 : decode cX11_in 11 = .ok (.goto 4, 3) := by decide +kernel
theorem dX11_in_14 : decode cX11_in 14 = .ok (.iconst 0, 1) := by decide +kernel
theorem dX11_in_15 : decode cX11_in 15 = .ok (.ireturn, 1) := by decide +kernel
theorem dX11_init_0 : decode cX11_init 0 = .ok (.aload_n 0, 1) := by decide +kernel
theorem dX11_init_1 : decode cX11_init 1 = .ok (.invokespecial 1, 3) := by decide +kernel
theorem dX11_init_4 : decode cX11_init 4 = .ok (.aload_n 0, 1) := by decide +kernel
theorem dX11_init_5 : decode cX11_init 5 = .ok (.bipush 16, 2) := by decide +kernel
theorem dX11_init_7 : decode cX11_init 7 = .ok (.newarray .boolean, 2) := by decide +kernel
theorem dX11_init_9 : decode cX11_init 9 = .ok (.putfield 7, 3) := by decide +kernel
theorem dX11_init_12 : decode cX11_init 12 = .ok (.aload_n 0, 1) := by decide +kernel
theorem dX11_init_13 : decode cX11_init 13 = .ok (.sipush 128, 3) := by decide +kernel
theorem dX11_init_16 : decode cX11_init 16 = .ok (.newarray .int, 2) := by decide +kernel
theorem dX11_init_18 : decode cX11_init 18 = .ok (.putfield 13, 3) := by decide +kernel
theorem dX11_init_21 : decode cX11_init 21 = .ok (.aload_n 0, 1) := by decide +kernel
theorem dX11_init_22 : decode cX11_init 22 = .ok (.bipush 16, 2) := by decide +kernel
theorem dX11_init_24 : decode cX11_init 24 = .ok (.newarray .int, 2) := by decide +kernel
theorem dX11_init_26 : decode cX11_init 26 = .ok (.putfield 17, 3) := by decide +kernel
theorem dX11_init_29 : decode cX11_init 29 = .ok (.aload_n 0, 1) := by decide +kernel
theorem dX11_init_30 : decode cX11_init 30 = .ok (.sipush 640, 3) := by decide +kernel
theorem dX11_init_33 : decode cX11_init 33 = .ok (.newarray .int, 2) := by decide +kernel
theorem dX11_init_35 : decode cX11_init 35 = .ok (.putfield 20, 3) := by decide +kernel
theorem dX11_init_38 : decode cX11_init 38 = .ok (.aload_n 0, 1) := by decide +kernel
theorem dX11_init_39 : decode cX11_init 39 = .ok (.sipush 800, 3) := by decide +kernel
theorem dX11_init_42 : decode cX11_init 42 = .ok (.newarray .int, 2) := by decide +kernel
theorem dX11_init_44 : decode cX11_init 44 = .ok (.putfield 23, 3) := by decide +kernel
theorem dX11_init_47 : decode cX11_init 47 = .ok (.aload_n 0, 1) := by decide +kernel
theorem dX11_init_48 : decode cX11_init 48 = .ok (.sipush 800, 3) := by decide +kernel
theorem dX11_init_51 : decode cX11_init 51 = .ok (.newarray .int, 2) := by decide +kernel
theorem dX11_init_53 : decode cX11_init 53 = .ok (.putfield 26, 3) := by decide +kernel
theorem dX11_init_56 : decode cX11_init 56 = .ok (.aload_n 0, 1) := by decide +kernel
theorem dX11_init_57 : decode cX11_init 57 = .ok (.sipush 640, 3) := by decide +kernel
theorem dX11_init_60 : decode cX11_init 60 = .ok (.newarray .int, 2) := by decide +kernel
theorem dX11_init_62 : decode cX11_init 62 = .ok (.putfield 29, 3) := by decide +kernel
theorem dX11_init_65 : decode cX11_init 65 = .ok (.aload_n 0, 1) := by decide +kernel
theorem dX11_init_66 : decode cX11_init 66 = .ok (.sipush 800, 3) := by decide +kernel
theorem dX11_init_69 : decode cX11_init 69 = .ok (.newarray .int, 2) := by decide +kernel
theorem dX11_init_71 : decode cX11_init 71 = .ok (.putfield 32, 3) := by decide +kernel
theorem dX11_init_74 : decode cX11_init 74 = .ok (.aload_n 0, 1) := by decide +kernel
theorem dX11_init_75 : decode cX11_init 75 = .ok (.bipush 8, 2) := by decide +kernel
theorem dX11_init_77 : decode cX11_init 77 = .ok (.newarray .int, 2) := by decide +kernel
theorem dX11_init_79 : decode cX11_init 79 = .ok (.putfield 35, 3) := by decide +kernel
theorem dX11_init_82 : decode cX11_init 82 = .ok (.aload_n 0, 1) := by decide +kernel
theorem dX11_init_83 : decode cX11_init 83 = .ok (.bipush 8, 2) := by decide +kernel
theorem dX11_init_85 : decode cX11_init 85 = .ok (.newarray .int, 2) := by decide +kernel
theorem dX11_init_87 : decode cX11_init 87 = .ok (.putfield 38, 3) := by decide +kernel
theorem dX11_init_90 : decode cX11_init 90 = .ok (.aload_n 0, 1) := by decide +kernel
theorem dX11_init_91 : decode cX11_init 91 = .ok (.sipush 4800, 3) := by decide +kernel
theorem dX11_init_94 : decode cX11_init 94 = .ok (.newarray .int, 2) := by decide +kernel
theorem dX11_init_96 : decode cX11_init 96 = .ok (.putfield 41, 3) := by decide +kernel
theorem dX11_init_99 : decode cX11_init 99 = .ok (.aload_n 0, 1) := by decide +kernel
theorem dX11_init_100 : decode cX11_init 100 = .ok (.bipush 40, 2) := by decide +kernel
theorem dX11_init_102 : decode cX11_init 102 = .ok (.newarray .int, 2) := by decide +kernel
theorem dX11_init_104 : decode cX11_init 104 = .ok (.putfield 44, 3) := by decide +kernel
theorem dX11_init_107 : decode cX11_init 107 = .ok (.aload_n 0, 1) := by decide +kernel
theorem dX11_init_108 : decode cX11_init 108 = .ok (.iconst 3, 1) := by decide +kernel
theorem dX11_init_109 : decode cX11_init 109 = .ok (.newarray .int, 2) := by decide +kernel
theorem dX11_init_111 : decode cX11_init 111 = .ok (.putfield 47, 3) := by decide +kernel
theorem dX11_init_114 : decode cX11_init 114 = .ok (.aload_n 0, 1) := by decide +kernel
theorem dX11_init_115 : decode cX11_init 115 = .ok (.iconst 3, 1) := by decide +kernel
theorem dX11_init_116 : decode cX11_init 116 = .ok (.newarray .int, 2) := by decide +kernel
theorem dX11_init_118 : decode cX11_init 118 = .ok (.putfield 50, 3) := by decide +kernel
theorem dX11_init_121 : decode cX11_init 121 = .ok (.aload_n 0, 1) := by decide +kernel
theorem dX11_init_122 : decode cX11_init 122 = .ok (.iconst 3, 1) := by decide +kernel
theorem dX11_init_123 : decode cX11_init 123 = .ok (.newarray .int, 2) := by decide +kernel
theorem dX11_init_125 : decode cX11_init 125 = .ok (.putfield 53, 3) := by decide +kernel
theorem dX11_init_128 : decode cX11_init 128 = .ok (.aload_n 0, 1) := by decide +kernel
theorem dX11_init_129 : decode cX11_init 129 = .ok (.sipush 1800, 3) := by decide +kernel
theorem dX11_init_132 : decode cX11_init 132 = .ok (.newarray .int, 2) := by decide +kernel
theorem dX11_init_134 : decode cX11_init 134 = .ok (.putfield 56, 3) := by decide +kernel
theorem dX11_init_137 : decode cX11_init 137 = .ok (.aload_n 0, 1) := by decide +kernel
theorem dX11_init_138 : decode cX11_init 138 = .ok (.iconst 3, 1) := by decide +kernel
theorem dX11_init_139 : decode cX11_init 139 = .ok (.newarray .int, 2) := by decide +kernel
theorem dX11_init_141 : decode cX11_init 141 = .ok (.putfield 59, 3) := by decide +kernel
theorem dX11_init_144 : decode cX11_init 144 = .ok (.aload_n 0, 1) := by decide +kernel
theorem dX11_init_145 : decode cX11_init 145 = .ok (.sipush 300, 3) := by decide +kernel
theorem dX11_init_148 : decode cX11_init 148 = .ok (.newarray .int, 2) := by decide +kernel
theorem dX11_init_150 : decode cX11_init 150 = .ok (.putfield 62, 3) := by decide +kernel
theorem dX11_init_153 : decode cX11_init 153 = .ok (.aload_n 0, 1) := by decide +kernel
theorem dX11_init_154 : decode cX11_init 154 = .ok (.sipush 300, 3) := by decide +kernel
theorem dX11_init_157 : decode cX11_init 157 = .ok (.newarray .int, 2) := by decide +kernel
theorem dX11_init_159 : decode cX11_init 159 = .ok (.putfield 65, 3) := by decide +kernel
theorem dX11_init_162 : decode cX11_init 162 = .ok (.aload_n 0, 1) := by decide +kernel
theorem dX11_init_163 : decode cX11_init 163 = .ok (.iconst 0, 1) := by decide +kernel
theorem dX11_init_164 : decode cX11_init 164 = .ok (.iconst 0, 1) := by decide +kernel
theorem dX11_init_165 : decode cX11_init 165 = .ok (.lconst 0, 1) := by decide +kernel
theorem dX11_init_166 : decode cX11_init 166 = .ok (.invokevirtual 68, 3) := by decide +kernel
theorem dX11_init_169 : decode cX11_init 169 = .ok (.istore_n 1, 1) := by decide +kernel
theorem dX11_init_170 : decode cX11_init 170 = .ok (.aload_n 0, 1) := by decide +kernel
theorem dX11_init_171 : decode cX11_init 171 = .ok (.iconst 1, 1) := by decide +kernel
theorem dX11_init_172 : decode cX11_init 172 = .ok (.iconst 0, 1) := by decide +kernel
theorem dX11_init_173 : decode cX11_init 173 = .ok (.lconst 0, 1) := by decide +kernel
theorem dX11_init_174 : decode cX11_init 174 = .ok (.invokevirtual 68, 3) := by decide +kernel
theorem dX11_init_177 : decode cX11_init 177 = .ok (.istore_n 2, 1) := by decide +kernel
theorem dX11_init_178 : decode cX11_init 178 = .ok (.return_, 1) := by decide +kernel
theorem dX11_context_0 : decode cX11_context 0 = .ok (.iload_n 1, 1) := by decide +kernel
theorem dX11_context_1 : decode cX11_context 1 = .ok (.iconst 0, 1) := by decide +kernel
theorem dX11_context_2 : decode cX11_context 2 = .ok (.bipush 15, 2) := by decide +kernel
theorem dX11_context_4 : decode cX11_context 4 = .ok (.invokestatic 72, 3) := by decide +kernel
theorem dX11_context_7 : decode cX11_context 7 = .ok (.ifCond .ne 5, 3) := by decide +kernel
theorem dX11_context_10 : decode cX11_context 10 = .ok (.iconst (-1), 1) := by decide +kernel
theorem dX11_context_11 : decode cX11_context 11 = .ok (.ireturn, 1) := by decide +kernel
theorem dX11_context_12 : decode cX11_context 12 = .ok (.aload_n 0, 1) := by decide +kernel
theorem dX11_context_13 : decode cX11_context 13 = .ok (.getfield 7, 3) := by decide +kernel
theorem dX11_context_16 : decode cX11_context 16 = .ok (.iload_n 1, 1) := by decide +kernel
theorem dX11_context_17 : decode cX11_context 17 = .ok (.baload, 1) := by decide +kernel
theorem dX11_context_18 : decode cX11_context 18 = .ok (.ifCond .eq 7, 3) := by decide +kernel
theorem dX11_context_21 : decode cX11_context 21 = .ok (.iconst 1, 1) := by decide +kernel
theorem dX11_context_22 : decode cX11_context 22 = .ok (.goto 4, 3) := by decide +kernel
theorem dX11_context_25 : decode cX11_context 25 = .ok (.iconst 0, 1) := by decide +kernel
theorem dX11_context_26 : decode cX11_context 26 = .ok (.istore 5, 2) := by decide +kernel
theorem dX11_context_28 : decode cX11_context 28 = .ok (.aload_n 0, 1) := by decide +kernel
theorem dX11_context_29 : decode cX11_context 29 = .ok (.getfield 7, 3) := by decide +kernel
theorem dX11_context_32 : decode cX11_context 32 = .ok (.iload_n 1, 1) := by decide +kernel
theorem dX11_context_33 : decode cX11_context 33 = .ok (.iload_n 2, 1) := by decide +kernel
theorem dX11_context_34 : decode cX11_context 34 = .ok (.bastore, 1) := by decide +kernel
theorem dX11_context_35 : decode cX11_context 35 = .ok (.iconst 0, 1) := by decide +kernel
theorem dX11_context_36 : decode cX11_context 36 = .ok (.istore 6, 2) := by decide +kernel
theorem dX11_context_38 : decode cX11_context 38 = .ok (.iload 6, 2) := by decide +kernel
theorem dX11_context_40 : decode cX11_context 40 = .ok (.bipush 8, 2) := by decide +kernel
theorem dX11_context_42 : decode cX11_context 42 = .ok (.if_icmp .ge 36, 3) := by decide +kernel
theorem dX11_context_45 : decode cX11_context 45 = .ok (.aload_n 0, 1) := by decide +kernel
theorem dX11_context_46 : decode cX11_context 46 = .ok (.getfield 13, 3) := by decide +kernel
theorem dX11_context_49 : decode cX11_context 49 = .ok (.bipush 8, 2) := by decide +kernel
theorem dX11_context_51 : decode cX11_context 51 = .ok (.iload_n 1, 1) := by decide +kernel
theorem dX11_context_52 : decode cX11_context 52 = .ok (.imul, 1) := by decide +kernel
theorem dX11_context_53 : decode cX11_context 53 = .ok (.iload 6, 2) := by decide +kernel
theorem dX11_context_55 : decode cX11_context 55 = .ok (.iadd, 1) := by decide +kernel
theorem dX11_context_56 : decode cX11_context 56 = .ok (.lload_n 3, 1) := by decide +kernel
theorem dX11_context_57 : decode cX11_context 57 = .ok (.bipush 56, 2) := by decide +kernel
theorem dX11_context_59 : decode cX11_context 59 = .ok (.bipush 8, 2) := by decide +kernel
theorem dX11_context_61 : decode cX11_context 61 = .ok (.iload 6, 2) := by decide +kernel
theorem dX11_context_63 : decode cX11_context 63 = .ok (.imul, 1) := by decide +kernel
theorem dX11_context_64 : decode cX11_context 64 = .ok (.isub, 1) := by decide +kernel
theorem dX11_context_65 : decode cX11_context 65 = .ok (.lshr, 1) := by decide +kernel
theorem dX11_context_66 : decode cX11_context 66 = .ok (.ldc2_w 76, 3) := by decide +kernel
theorem dX11_context_69 : decode cX11_context 69 = .ok (.land, 1) := by decide +kernel
theorem dX11_context_70 : decode cX11_context 70 = .ok (.l2i, 1) := by decide +kernel
theorem dX11_context_71 : decode cX11_context 71 = .ok (.iastore, 1) := by decide +kernel
theorem dX11_context_72 : decode cX11_context 72 = .ok (.iinc 6 1, 3) := by decide +kernel
theorem dX11_context_75 : decode cX11_context 75 = .ok (.goto (-37), 3) := by decide +kernel
theorem dX11_context_78 : decode cX11_context 78 = .ok (.iload 5, 2) := by decide +kernel
theorem dX11_context_80 : decode cX11_context 80 = .ok (.ireturn, 1) := by decide +kernel
theorem dX11_link_0 : decode cX11_link 0 = .ok (.iload_n 1, 1) := by decide +kernel
theorem dX11_link_1 : decode cX11_link 1 = .ok (.iconst 0, 1) := by decide +kernel
theorem dX11_link_2 : decode cX11_link 2 = .ok (.iconst 1, 1) := by decide +kernel
theorem dX11_link_3 : decode cX11_link 3 = .ok (.invokestatic 72, 3) := by decide +kernel
theorem dX11_link_6 : decode cX11_link 6 = .ok (.ifCond .ne 5, 3) := by decide +kernel
theorem dX11_link_9 : decode cX11_link 9 = .ok (.iconst (-1), 1) := by decide +kernel
theorem dX11_link_10 : decode cX11_link 10 = .ok (.ireturn, 1) := by decide +kernel
theorem dX11_link_11 : decode cX11_link 11 = .ok (.iconst 0, 1) := by decide +kernel
theorem dX11_link_12 : decode cX11_link 12 = .ok (.istore 5, 2) := by decide +kernel
theorem dX11_link_14 : decode cX11_link 14 = .ok (.iload 5, 2) := by decide +kernel
theorem dX11_link_16 : decode cX11_link 16 = .ok (.bipush 8, 2) := by decide +kernel
theorem dX11_link_18 : decode cX11_link 18 = .ok (.if_icmp .ge 108, 3) := by decide +kernel
theorem dX11_link_21 : decode cX11_link 21 = .ok (.lload_n 3, 1) := by decide +kernel
theorem dX11_link_22 : decode cX11_link 22 = .ok (.bipush 56, 2) := by decide +kernel
theorem dX11_link_24 : decode cX11_link 24 = .ok (.bipush 8, 2) := by decide +kernel
theorem dX11_link_26 : decode cX11_link 26 = .ok (.iload 5, 2) := by decide +kernel
theorem dX11_link_28 : decode cX11_link 28 = .ok (.imul, 1) := by decide +kernel
theorem dX11_link_29 : decode cX11_link 29 = .ok (.isub, 1) := by decide +kernel
theorem dX11_link_30 : decode cX11_link 30 = .ok (.lshr, 1) := by decide +kernel
theorem dX11_link_31 : decode cX11_link 31 = .ok (.ldc2_w 76, 3) := by decide +kernel
theorem dX11_link_34 : decode cX11_link 34 = .ok (.land, 1) := by decide +kernel
theorem dX11_link_35 : decode cX11_link 35 = .ok (.l2i, 1) := by decide +kernel
theorem dX11_link_36 : decode cX11_link 36 = .ok (.istore 6, 2) := by decide +kernel
theorem dX11_link_38 : decode cX11_link 38 = .ok (.iload_n 2, 1) := by decide +kernel
theorem dX11_link_39 : decode cX11_link 39 = .ok (.ifCond .eq 32, 3) := by decide +kernel
theorem dX11_link_42 : decode cX11_link 42 = .ok (.aload_n 0, 1) := by decide +kernel
theorem dX11_link_43 : decode cX11_link 43 = .ok (.getfield 17, 3) := by decide +kernel
theorem dX11_link_46 : decode cX11_link 46 = .ok (.bipush 8, 2) := by decide +kernel
theorem dX11_link_48 : decode cX11_link 48 = .ok (.iload_n 1, 1) := by decide +kernel
theorem dX11_link_49 : decode cX11_link 49 = .ok (.imul, 1) := by decide +kernel
theorem dX11_link_50 : decode cX11_link 50 = .ok (.iload 5, 2) := by decide +kernel
theorem dX11_link_52 : decode cX11_link 52 = .ok (.iadd, 1) := by decide +kernel
theorem dX11_link_53 : decode cX11_link 53 = .ok (.iload 5, 2) := by decide +kernel
theorem dX11_link_55 : decode cX11_link 55 = .ok (.ifCond .ne 10, 3) := by decide +kernel
theorem dX11_link_58 : decode cX11_link 58 = .ok (.iload 6, 2) := by decide +kernel
theorem dX11_link_60 : decode cX11_link 60 = .ok (.iconst 2, 1) := by decide +kernel
theorem dX11_link_61 : decode cX11_link 61 = .ok (.ixor, 1) := by decide +kernel
theorem dX11_link_62 : decode cX11_link 62 = .ok (.goto 5, 3) := by decide +kernel
theorem dX11_link_65 : decode cX11_link 65 = .ok (.iload 6, 2) := by decide +kernel
theorem dX11_link_67 : decode cX11_link 67 = .ok (.iastore, 1) := by decide +kernel
theorem dX11_link_68 : decode cX11_link 68 = .ok (.goto 52, 3) := by decide +kernel
theorem dX11_link_71 : decode cX11_link 71 = .ok (.aload_n 0, 1) := by decide +kernel
theorem dX11_link_72 : decode cX11_link 72 = .ok (.getfield 17, 3) := by decide +kernel
theorem dX11_link_75 : decode cX11_link 75 = .ok (.bipush 8, 2) := by decide +kernel
theorem dX11_link_77 : decode cX11_link 77 = .ok (.iload_n 1, 1) := by decide +kernel
theorem dX11_link_78 : decode cX11_link 78 = .ok (.imul, 1) := by decide +kernel
theorem dX11_link_79 : decode cX11_link 79 = .ok (.iload 5, 2) := by decide +kernel
theorem dX11_link_81 : decode cX11_link 81 = .ok (.iadd, 1) := by decide +kernel
theorem dX11_link_82 : decode cX11_link 82 = .ok (.iload 5, 2) := by decide +kernel
theorem dX11_link_84 : decode cX11_link 84 = .ok (.iconst 3, 1) := by decide +kernel
theorem dX11_link_85 : decode cX11_link 85 = .ok (.if_icmp .ne 9, 3) := by decide +kernel
theorem dX11_link_88 : decode cX11_link 88 = .ok (.sipush 255, 3) := by decide +kernel
theorem dX11_link_91 : decode cX11_link 91 = .ok (.goto 28, 3) := by decide +kernel
theorem dX11_link_94 : decode cX11_link 94 = .ok (.iload 5, 2) := by decide +kernel
theorem dX11_link_96 : decode cX11_link 96 = .ok (.iconst 4, 1) := by decide +kernel
theorem dX11_link_97 : decode cX11_link 97 = .ok (.if_icmp .ne 9, 3) := by decide +kernel
theorem dX11_link_100 : decode cX11_link 100 = .ok (.sipush 254, 3) := by decide +kernel
theorem dX11_link_103 : decode cX11_link 103 = .ok (.goto 16, 3) := by decide +kernel
theorem dX11_link_106 : decode cX11_link 106 = .ok (.iload 5, 2) := by decide +kernel
theorem dX11_link_108 : decode cX11_link 108 = .ok (.bipush 6, 2) := by decide +kernel
theorem dX11_link_110 : decode cX11_link 110 = .ok (.if_icmp .ge 7, 3) := by decide +kernel
theorem dX11_link_113 : decode cX11_link 113 = .ok (.iconst 0, 1) := by decide +kernel
theorem dX11_link_114 : decode cX11_link 114 = .ok (.goto 5, 3) := by decide +kernel
theorem dX11_link_117 : decode cX11_link 117 = .ok (.iload 6, 2) := by decide +kernel
theorem dX11_link_119 : decode cX11_link 119 = .ok (.iastore, 1) := by decide +kernel
theorem dX11_link_120 : decode cX11_link 120 = .ok (.iinc 5 1, 3) := by decide +kernel
theorem dX11_link_123 : decode cX11_link 123 = .ok (.goto (-109), 3) := by decide +kernel
theorem dX11_link_126 : decode cX11_link 126 = .ok (.iconst 1, 1) := by decide +kernel
theorem dX11_link_127 : decode cX11_link 127 = .ok (.ireturn, 1) := by decide +kernel
theorem dX11_lay_0 : decode cX11_lay 0 = .ok (.aload_n 0, 1) := by decide +kernel
theorem dX11_lay_1 : decode cX11_lay 1 = .ok (.getfield 20, 3) := by decide +kernel
theorem dX11_lay_4 : decode cX11_lay 4 = .ok (.aload_n 0, 1) := by decide +kernel
theorem dX11_lay_5 : decode cX11_lay 5 = .ok (.getfield 78, 3) := by decide +kernel
theorem dX11_lay_8 : decode cX11_lay 8 = .ok (.iload_n 1, 1) := by decide +kernel
theorem dX11_lay_9 : decode cX11_lay 9 = .ok (.sipush 255, 3) := by decide +kernel
theorem dX11_lay_12 : decode cX11_lay 12 = .ok (.iand, 1) := by decide +kernel
theorem dX11_lay_13 : decode cX11_lay 13 = .ok (.iastore, 1) := by decide +kernel
theorem dX11_lay_14 : decode cX11_lay 14 = .ok (.aload_n 0, 1) := by decide +kernel
theorem dX11_lay_15 : decode cX11_lay 15 = .ok (.dup, 1) := by decide +kernel
theorem dX11_lay_16 : decode cX11_lay 16 = .ok (.getfield 78, 3) := by decide +kernel
theorem dX11_lay_19 : decode cX11_lay 19 = .ok (.iconst 1, 1) := by decide +kernel
theorem dX11_lay_20 : decode cX11_lay 20 = .ok (.iadd, 1) := by decide +kernel
theorem dX11_lay_21 : decode cX11_lay 21 = .ok (.putfield 78, 3) := by decide +kernel
theorem dX11_lay_24 : decode cX11_lay 24 = .ok (.return_, 1) := by decide +kernel
theorem dX11_layLong_0 : decode cX11_layLong 0 = .ok (.iconst 0, 1) := by decide +kernel
theorem dX11_layLong_1 : decode cX11_layLong 1 = .ok (.istore_n 3, 1) := by decide +kernel
theorem dX11_layLong_2 : decode cX11_layLong 2 = .ok (.iload_n 3, 1) := by decide +kernel
theorem dX11_layLong_3 : decode cX11_layLong 3 = .ok (.bipush 8, 2) := by decide +kernel
theorem dX11_layLong_5 : decode cX11_layLong 5 = .ok (.if_icmp .ge 27, 3) := by decide +kernel
theorem dX11_layLong_8 : decode cX11_layLong 8 = .ok (.aload_n 0, 1) := by decide +kernel
theorem dX11_layLong_9 : decode cX11_layLong 9 = .ok (.lload_n 1, 1) := by decide +kernel
theorem dX11_layLong_10 : decode cX11_layLong 10 = .ok (.bipush 56, 2) := by decide +kernel
theorem dX11_layLong_12 : decode cX11_layLong 12 = .ok (.bipush 8, 2) := by decide +kernel
theorem dX11_layLong_14 : decode cX11_layLong 14 = .ok (.iload_n 3, 1) := by decide +kernel
theorem dX11_layLong_15 : decode cX11_layLong 15 = .ok (.imul, 1) := by decide +kernel
theorem dX11_layLong_16 : decode cX11_layLong 16 = .ok (.isub, 1) := by decide +kernel
theorem dX11_layLong_17 : decode cX11_layLong 17 = .ok (.lshr, 1) := by decide +kernel
theorem dX11_layLong_18 : decode cX11_layLong 18 = .ok (.ldc2_w 76, 3) := by decide +kernel
theorem dX11_layLong_21 : decode cX11_layLong 21 = .ok (.land, 1) := by decide +kernel
theorem dX11_layLong_22 : decode cX11_layLong 22 = .ok (.l2i, 1) := by decide +kernel
theorem dX11_layLong_23 : decode cX11_layLong 23 = .ok (.invokevirtual 82, 3) := by decide +kernel
theorem dX11_layLong_26 : decode cX11_layLong 26 = .ok (.iinc 3 1, 3) := by decide +kernel
theorem dX11_layLong_29 : decode cX11_layLong 29 = .ok (.goto (-27), 3) := by decide +kernel
theorem dX11_layLong_32 : decode cX11_layLong 32 = .ok (.return_, 1) := by decide +kernel
theorem dX11_type_0 : decode cX11_type 0 = .ok (.iload_n 3, 1) := by decide +kernel
theorem dX11_type_1 : decode cX11_type 1 = .ok (.iconst 1, 1) := by decide +kernel
theorem dX11_type_2 : decode cX11_type 2 = .ok (.bipush 8, 2) := by decide +kernel
theorem dX11_type_4 : decode cX11_type 4 = .ok (.invokestatic 72, 3) := by decide +kernel
theorem dX11_type_7 : decode cX11_type 7 = .ok (.ifCond .ne 5, 3) := by decide +kernel
theorem dX11_type_10 : decode cX11_type 10 = .ok (.iconst (-1), 1) := by decide +kernel
theorem dX11_type_11 : decode cX11_type 11 = .ok (.ireturn, 1) := by decide +kernel
theorem dX11_type_12 : decode cX11_type 12 = .ok (.aload_n 0, 1) := by decide +kernel
theorem dX11_type_13 : decode cX11_type 13 = .ok (.getfield 78, 3) := by decide +kernel
theorem dX11_type_16 : decode cX11_type 16 = .ok (.iload_n 3, 1) := by decide +kernel
theorem dX11_type_17 : decode cX11_type 17 = .ok (.iadd, 1) := by decide +kernel
theorem dX11_type_18 : decode cX11_type 18 = .ok (.sipush 640, 3) := by decide +kernel
theorem dX11_type_21 : decode cX11_type 21 = .ok (.if_icmp .le 6, 3) := by decide +kernel
theorem dX11_type_24 : decode cX11_type 24 = .ok (.bipush (-3), 2) := by decide +kernel
theorem dX11_type_26 : decode cX11_type 26 = .ok (.ireturn, 1) := by decide +kernel
theorem dX11_type_27 : decode cX11_type 27 = .ok (.iload_n 3, 1) := by decide +kernel
theorem dX11_type_28 : decode cX11_type 28 = .ok (.iconst 1, 1) := by decide +kernel
theorem dX11_type_29 : decode cX11_type 29 = .ok (.isub, 1) := by decide +kernel
theorem dX11_type_30 : decode cX11_type 30 = .ok (.istore 4, 2) := by decide +kernel
theorem dX11_type_32 : decode cX11_type 32 = .ok (.iload 4, 2) := by decide +kernel
theorem dX11_type_34 : decode cX11_type 34 = .ok (.ifCond .lt 25, 3) := by decide +kernel
theorem dX11_type_37 : decode cX11_type 37 = .ok (.aload_n 0, 1) := by decide +kernel
theorem dX11_type_38 : decode cX11_type 38 = .ok (.lload_n 1, 1) := by decide +kernel
theorem dX11_type_39 : decode cX11_type 39 = .ok (.bipush 8, 2) := by decide +kernel
theorem dX11_type_41 : decode cX11_type 41 = .ok (.iload 4, 2) := by decide +kernel
theorem dX11_type_43 : decode cX11_type 43 = .ok (.imul, 1) := by decide +kernel
theorem dX11_type_44 : decode cX11_type 44 = .ok (.lshr, 1) := by decide +kernel
theorem dX11_type_45 : decode cX11_type 45 = .ok (.ldc2_w 76, 3) := by decide +kernel
theorem dX11_type_48 : decode cX11_type 48 = .ok (.land, 1) := by decide +kernel
theorem dX11_type_49 : decode cX11_type 49 = .ok (.l2i, 1) := by decide +kernel
theorem dX11_type_50 : decode cX11_type 50 = .ok (.invokevirtual 82, 3) := by decide +kernel
theorem dX11_type_53 : decode cX11_type 53 = .ok (.iinc 4 (-1), 3) := by decide +kernel
theorem dX11_type_56 : decode cX11_type 56 = .ok (.goto (-24), 3) := by decide +kernel
theorem dX11_type_59 : decode cX11_type 59 = .ok (.aload_n 0, 1) := by decide +kernel
theorem dX11_type_60 : decode cX11_type 60 = .ok (.getfield 78, 3) := by decide +kernel
theorem dX11_type_63 : decode cX11_type 63 = .ok (.ireturn, 1) := by decide +kernel
theorem dX11_head_0 : decode cX11_head 0 = .ok (.iload_n 1, 1) := by decide +kernel
theorem dX11_head_1 : decode cX11_head 1 = .ok (.iconst 0, 1) := by decide +kernel
theorem dX11_head_2 : decode cX11_head 2 = .ok (.sipush 255, 3) := by decide +kernel
theorem dX11_head_5 : decode cX11_head 5 = .ok (.invokestatic 72, 3) := by decide +kernel
theorem dX11_head_8 : decode cX11_head 8 = .ok (.ifCond .eq 48, 3) := by decide +kernel
theorem dX11_head_11 : decode cX11_head 11 = .ok (.iload_n 2, 1) := by decide +kernel
theorem dX11_head_12 : decode cX11_head 12 = .ok (.iconst 0, 1) := by decide +kernel
theorem dX11_head_13 : decode cX11_head 13 = .ok (.ldc 86, 2) := by decide +kernel
theorem dX11_head_15 : decode cX11_head 15 = .ok (.invokestatic 72, 3) := by decide +kernel
theorem dX11_head_18 : decode cX11_head 18 = .ok (.ifCond .eq 38, 3) := by decide +kernel
theorem dX11_head_21 : decode cX11_head 21 = .ok (.iload_n 3, 1) := by decide +kernel
theorem dX11_head_22 : decode cX11_head 22 = .ok (.iconst 0, 1) := by decide +kernel
theorem dX11_head_23 : decode cX11_head 23 = .ok (.sipush 560, 3) := by decide +kernel
theorem dX11_head_26 : decode cX11_head 26 = .ok (.invokestatic 72, 3) := by decide +kernel
theorem dX11_head_29 : decode cX11_head 29 = .ok (.ifCond .eq 27, 3) := by decide +kernel
theorem dX11_head_32 : decode cX11_head 32 = .ok (.iload 4, 2) := by decide +kernel
theorem dX11_head_34 : decode cX11_head 34 = .ok (.iconst 0, 1) := by decide +kernel
theorem dX11_head_35 : decode cX11_head 35 = .ok (.sipush 255, 3) := by decide +kernel
theorem dX11_head_38 : decode cX11_head 38 = .ok (.invokestatic 72, 3) := by decide +kernel
theorem dX11_head_41 : decode cX11_head 41 = .ok (.ifCond .eq 15, 3) := by decide +kernel
theorem dX11_head_44 : decode cX11_head 44 = .ok (.iload 5, 2) := by decide +kernel
theorem dX11_head_46 : decode cX11_head 46 = .ok (.iconst 0, 1) := by decide +kernel
theorem dX11_head_47 : decode cX11_head 47 = .ok (.sipush 255, 3) := by decide +kernel
theorem dX11_head_50 : decode cX11_head 50 = .ok (.invokestatic 72, 3) := by decide +kernel
theorem dX11_head_53 : decode cX11_head 53 = .ok (.ifCond .ne 5, 3) := by decide +kernel
theorem dX11_head_56 : decode cX11_head 56 = .ok (.iconst (-1), 1) := by decide +kernel
theorem dX11_head_57 : decode cX11_head 57 = .ok (.ireturn, 1) := by decide +kernel
theorem dX11_head_58 : decode cX11_head 58 = .ok (.aload_n 0, 1) := by decide +kernel
theorem dX11_head_59 : decode cX11_head 59 = .ok (.getfield 78, 3) := by decide +kernel
theorem dX11_head_62 : decode cX11_head 62 = .ok (.bipush 40, 2) := by decide +kernel
theorem dX11_head_64 : decode cX11_head 64 = .ok (.iadd, 1) := by decide +kernel
theorem dX11_head_65 : decode cX11_head 65 = .ok (.sipush 640, 3) := by decide +kernel
theorem dX11_head_68 : decode cX11_head 68 = .ok (.if_icmp .le 6, 3) := by decide +kernel
theorem dX11_head_71 : decode cX11_head 71 = .ok (.bipush (-3), 2) := by decide +kernel
theorem dX11_head_73 : decode cX11_head 73 = .ok (.ireturn, 1) := by decide +kernel
theorem dX11_head_74 : decode cX11_head 74 = .ok (.aload_n 0, 1) := by decide +kernel
theorem dX11_head_75 : decode cX11_head 75 = .ok (.bipush 96, 2) := by decide +kernel
theorem dX11_head_77 : decode cX11_head 77 = .ok (.iload_n 1, 1) := by decide +kernel
theorem dX11_head_78 : decode cX11_head 78 = .ok (.iconst 4, 1) := by decide +kernel
theorem dX11_head_79 : decode cX11_head 79 = .ok (.ishr, 1) := by decide +kernel
theorem dX11_head_80 : decode cX11_head 80 = .ok (.ior, 1) := by decide +kernel
theorem dX11_head_81 : decode cX11_head 81 = .ok (.invokevirtual 82, 3) := by decide +kernel
theorem dX11_head_84 : decode cX11_head 84 = .ok (.aload_n 0, 1) := by decide +kernel
theorem dX11_head_85 : decode cX11_head 85 = .ok (.iload_n 1, 1) := by decide +kernel
theorem dX11_head_86 : decode cX11_head 86 = .ok (.bipush 15, 2) := by decide +kernel
theorem dX11_head_88 : decode cX11_head 88 = .ok (.iand, 1) := by decide +kernel
theorem dX11_head_89 : decode cX11_head 89 = .ok (.iconst 4, 1) := by decide +kernel
theorem dX11_head_90 : decode cX11_head 90 = .ok (.ishl, 1) := by decide +kernel
theorem dX11_head_91 : decode cX11_head 91 = .ok (.iload_n 2, 1) := by decide +kernel
theorem dX11_head_92 : decode cX11_head 92 = .ok (.bipush 16, 2) := by decide +kernel
theorem dX11_head_94 : decode cX11_head 94 = .ok (.ishr, 1) := by decide +kernel
theorem dX11_head_95 : decode cX11_head 95 = .ok (.ior, 1) := by decide +kernel
theorem dX11_head_96 : decode cX11_head 96 = .ok (.invokevirtual 82, 3) := by decide +kernel
theorem dX11_head_99 : decode cX11_head 99 = .ok (.aload_n 0, 1) := by decide +kernel
theorem dX11_head_100 : decode cX11_head 100 = .ok (.iload_n 2, 1) := by decide +kernel
theorem dX11_head_101 : decode cX11_head 101 = .ok (.bipush 8, 2) := by decide +kernel
theorem dX11_head_103 : decode cX11_head 103 = .ok (.ishr, 1) := by decide +kernel
theorem dX11_head_104 : decode cX11_head 104 = .ok (.invokevirtual 82, 3) := by decide +kernel
theorem dX11_head_107 : decode cX11_head 107 = .ok (.aload_n 0, 1) := by decide +kernel
theorem dX11_head_108 : decode cX11_head 108 = .ok (.iload_n 2, 1) := by decide +kernel
theorem dX11_head_109 : decode cX11_head 109 = .ok (.invokevirtual 82, 3) := by decide +kernel
theorem dX11_head_112 : decode cX11_head 112 = .ok (.aload_n 0, 1) := by decide +kernel
theorem dX11_head_113 : decode cX11_head 113 = .ok (.iload_n 3, 1) := by decide +kernel
theorem dX11_head_114 : decode cX11_head 114 = .ok (.bipush 8, 2) := by decide +kernel
theorem dX11_head_116 : decode cX11_head 116 = .ok (.ishr, 1) := by decide +kernel
theorem dX11_head_117 : decode cX11_head 117 = .ok (.invokevirtual 82, 3) := by decide +kernel
theorem dX11_head_120 : decode cX11_head 120 = .ok (.aload_n 0, 1) := by decide +kernel
theorem dX11_head_121 : decode cX11_head 121 = .ok (.iload_n 3, 1) := by decide +kernel
theorem dX11_head_122 : decode cX11_head 122 = .ok (.invokevirtual 82, 3) := by decide +kernel
theorem dX11_head_125 : decode cX11_head 125 = .ok (.aload_n 0, 1) := by decide +kernel
theorem dX11_head_126 : decode cX11_head 126 = .ok (.iload 4, 2) := by decide +kernel
theorem dX11_head_128 : decode cX11_head 128 = .ok (.invokevirtual 82, 3) := by decide +kernel
theorem dX11_head_131 : decode cX11_head 131 = .ok (.aload_n 0, 1) := by decide +kernel
theorem dX11_head_132 : decode cX11_head 132 = .ok (.iload 5, 2) := by decide +kernel
theorem dX11_head_134 : decode cX11_head 134 = .ok (.invokevirtual 82, 3) := by decide +kernel
theorem dX11_head_137 : decode cX11_head 137 = .ok (.aload_n 0, 1) := by decide +kernel
theorem dX11_head_138 : decode cX11_head 138 = .ok (.lload 6, 2) := by decide +kernel
theorem dX11_head_140 : decode cX11_head 140 = .ok (.invokevirtual 87, 3) := by decide +kernel
theorem dX11_head_143 : decode cX11_head 143 = .ok (.aload_n 0, 1) := by decide +kernel
theorem dX11_head_144 : decode cX11_head 144 = .ok (.lload 8, 2) := by decide +kernel
theorem dX11_head_146 : decode cX11_head 146 = .ok (.invokevirtual 87, 3) := by decide +kernel
theorem dX11_head_149 : decode cX11_head 149 = .ok (.aload_n 0, 1) := by decide +kernel
theorem dX11_head_150 : decode cX11_head 150 = .ok (.lload 10, 2) := by decide +kernel
theorem dX11_head_152 : decode cX11_head 152 = .ok (.invokevirtual 87, 3) := by decide +kernel
theorem dX11_head_155 : decode cX11_head 155 = .ok (.aload_n 0, 1) := by decide +kernel
theorem dX11_head_156 : decode cX11_head 156 = .ok (.lload 12, 2) := by decide +kernel
theorem dX11_head_158 : decode cX11_head 158 = .ok (.invokevirtual 87, 3) := by decide +kernel
theorem dX11_head_161 : decode cX11_head 161 = .ok (.aload_n 0, 1) := by decide +kernel
theorem dX11_head_162 : decode cX11_head 162 = .ok (.getfield 78, 3) := by decide +kernel
theorem dX11_head_165 : decode cX11_head 165 = .ok (.ireturn, 1) := by decide +kernel
theorem dX11_cut_0 : decode cX11_cut 0 = .ok (.iload_n 1, 1) := by decide +kernel
theorem dX11_cut_1 : decode cX11_cut 1 = .ok (.iconst 0, 1) := by decide +kernel
theorem dX11_cut_2 : decode cX11_cut 2 = .ok (.aload_n 0, 1) := by decide +kernel
theorem dX11_cut_3 : decode cX11_cut 3 = .ok (.getfield 78, 3) := by decide +kernel
theorem dX11_cut_6 : decode cX11_cut 6 = .ok (.invokestatic 72, 3) := by decide +kernel
theorem dX11_cut_9 : decode cX11_cut 9 = .ok (.ifCond .ne 5, 3) := by decide +kernel
theorem dX11_cut_12 : decode cX11_cut 12 = .ok (.iconst (-1), 1) := by decide +kernel
theorem dX11_cut_13 : decode cX11_cut 13 = .ok (.ireturn, 1) := by decide +kernel
theorem dX11_cut_14 : decode cX11_cut 14 = .ok (.aload_n 0, 1) := by decide +kernel
theorem dX11_cut_15 : decode cX11_cut 15 = .ok (.getfield 78, 3) := by decide +kernel
theorem dX11_cut_18 : decode cX11_cut 18 = .ok (.iload_n 1, 1) := by decide +kernel
theorem dX11_cut_19 : decode cX11_cut 19 = .ok (.isub, 1) := by decide +kernel
theorem dX11_cut_20 : decode cX11_cut 20 = .ok (.istore_n 2, 1) := by decide +kernel
theorem dX11_cut_21 : decode cX11_cut 21 = .ok (.aload_n 0, 1) := by decide +kernel
theorem dX11_cut_22 : decode cX11_cut 22 = .ok (.iload_n 1, 1) := by decide +kernel
theorem dX11_cut_23 : decode cX11_cut 23 = .ok (.putfield 78, 3) := by decide +kernel
theorem dX11_cut_26 : decode cX11_cut 26 = .ok (.iload_n 2, 1) := by decide +kernel
theorem dX11_cut_27 : decode cX11_cut 27 = .ok (.ireturn, 1) := by decide +kernel
theorem dX11_poke_0 : decode cX11_poke 0 = .ok (.iload_n 1, 1) := by decide +kernel
theorem dX11_poke_1 : decode cX11_poke 1 = .ok (.iconst 0, 1) := by decide +kernel
theorem dX11_poke_2 : decode cX11_poke 2 = .ok (.aload_n 0, 1) := by decide +kernel
theorem dX11_poke_3 : decode cX11_poke 3 = .ok (.getfield 78, 3) := by decide +kernel
theorem dX11_poke_6 : decode cX11_poke 6 = .ok (.iconst 1, 1) := by decide +kernel
theorem dX11_poke_7 : decode cX11_poke 7 = .ok (.isub, 1) := by decide +kernel
theorem dX11_poke_8 : decode cX11_poke 8 = .ok (.invokestatic 72, 3) := by decide +kernel
theorem dX11_poke_11 : decode cX11_poke 11 = .ok (.ifCond .ne 5, 3) := by decide +kernel
theorem dX11_poke_14 : decode cX11_poke 14 = .ok (.iconst (-1), 1) := by decide +kernel
theorem dX11_poke_15 : decode cX11_poke 15 = .ok (.ireturn, 1) := by decide +kernel
theorem dX11_poke_16 : decode cX11_poke 16 = .ok (.aload_n 0, 1) := by decide +kernel
theorem dX11_poke_17 : decode cX11_poke 17 = .ok (.getfield 20, 3) := by decide +kernel
theorem dX11_poke_20 : decode cX11_poke 20 = .ok (.iload_n 1, 1) := by decide +kernel
theorem dX11_poke_21 : decode cX11_poke 21 = .ok (.aload_n 0, 1) := by decide +kernel
theorem dX11_poke_22 : decode cX11_poke 22 = .ok (.getfield 20, 3) := by decide +kernel
theorem dX11_poke_25 : decode cX11_poke 25 = .ok (.iload_n 1, 1) := by decide +kernel
theorem dX11_poke_26 : decode cX11_poke 26 = .ok (.iaload, 1) := by decide +kernel
theorem dX11_poke_27 : decode cX11_poke 27 = .ok (.iload_n 2, 1) := by decide +kernel
theorem dX11_poke_28 : decode cX11_poke 28 = .ok (.sipush 255, 3) := by decide +kernel
theorem dX11_poke_31 : decode cX11_poke 31 = .ok (.iand, 1) := by decide +kernel
theorem dX11_poke_32 : decode cX11_poke 32 = .ok (.ixor, 1) := by decide +kernel
theorem dX11_poke_33 : decode cX11_poke 33 = .ok (.iastore, 1) := by decide +kernel
theorem dX11_poke_34 : decode cX11_poke 34 = .ok (.aload_n 0, 1) := by decide +kernel
theorem dX11_poke_35 : decode cX11_poke 35 = .ok (.getfield 20, 3) := by decide +kernel
theorem dX11_poke_38 : decode cX11_poke 38 = .ok (.iload_n 1, 1) := by decide +kernel
theorem dX11_poke_39 : decode cX11_poke 39 = .ok (.iaload, 1) := by decide +kernel
theorem dX11_poke_40 : decode cX11_poke 40 = .ok (.ireturn, 1) := by decide +kernel
theorem dX11_take_0 : decode cX11_take 0 = .ok (.iconst 0, 1) := by decide +kernel
theorem dX11_take_1 : decode cX11_take 1 = .ok (.istore_n 1, 1) := by decide +kernel
theorem dX11_take_2 : decode cX11_take 2 = .ok (.iload_n 1, 1) := by decide +kernel
theorem dX11_take_3 : decode cX11_take 3 = .ok (.aload_n 0, 1) := by decide +kernel
theorem dX11_take_4 : decode cX11_take 4 = .ok (.getfield 91, 3) := by decide +kernel
theorem dX11_take_7 : decode cX11_take 7 = .ok (.if_icmp .ge 21, 3) := by decide +kernel
theorem dX11_take_10 : decode cX11_take 10 = .ok (.aload_n 0, 1) := by decide +kernel
theorem dX11_take_11 : decode cX11_take 11 = .ok (.getfield 20, 3) := by decide +kernel
theorem dX11_take_14 : decode cX11_take 14 = .ok (.iload_n 1, 1) := by decide +kernel
theorem dX11_take_15 : decode cX11_take 15 = .ok (.aload_n 0, 1) := by decide +kernel
theorem dX11_take_16 : decode cX11_take 16 = .ok (.getfield 23, 3) := by decide +kernel
theorem dX11_take_19 : decode cX11_take 19 = .ok (.iload_n 1, 1) := by decide +kernel
theorem dX11_take_20 : decode cX11_take 20 = .ok (.iaload, 1) := by decide +kernel
theorem dX11_take_21 : decode cX11_take 21 = .ok (.iastore, 1) := by decide +kernel
theorem dX11_take_22 : decode cX11_take 22 = .ok (.iinc 1 1, 3) := by decide +kernel
theorem dX11_take_25 : decode cX11_take 25 = .ok (.goto (-23), 3) := by decide +kernel
theorem dX11_take_28 : decode cX11_take 28 = .ok (.aload_n 0, 1) := by decide +kernel
theorem dX11_take_29 : decode cX11_take 29 = .ok (.aload_n 0, 1) := by decide +kernel
theorem dX11_take_30 : decode cX11_take 30 = .ok (.getfield 91, 3) := by decide +kernel
theorem dX11_take_33 : decode cX11_take 33 = .ok (.putfield 78, 3) := by decide +kernel
theorem dX11_take_36 : decode cX11_take 36 = .ok (.aload_n 0, 1) := by decide +kernel
theorem dX11_take_37 : decode cX11_take 37 = .ok (.getfield 78, 3) := by decide +kernel
theorem dX11_take_40 : decode cX11_take 40 = .ok (.ireturn, 1) := by decide +kernel
theorem dX11_out_0 : decode cX11_out 0 = .ok (.iload_n 1, 1) := by decide +kernel
theorem dX11_out_1 : decode cX11_out 1 = .ok (.iconst (-1), 1) := by decide +kernel
theorem dX11_out_2 : decode cX11_out 2 = .ok (.if_icmp .ne 10, 3) := by decide +kernel
theorem dX11_out_5 : decode cX11_out 5 = .ok (.aload_n 0, 1) := by decide +kernel
theorem dX11_out_6 : decode cX11_out 6 = .ok (.getfield 91, 3) := by decide +kernel
theorem dX11_out_9 : decode cX11_out 9 = .ok (.goto 27, 3) := by decide +kernel
theorem dX11_out_12 : decode cX11_out 12 = .ok (.iload_n 1, 1) := by decide +kernel
theorem dX11_out_13 : decode cX11_out 13 = .ok (.iconst 0, 1) := by decide +kernel
theorem dX11_out_14 : decode cX11_out 14 = .ok (.aload_n 0, 1) := by decide +kernel
theorem dX11_out_15 : decode cX11_out 15 = .ok (.getfield 91, 3) := by decide +kernel
theorem dX11_out_18 : decode cX11_out 18 = .ok (.iconst 1, 1) := by decide +kernel
theorem dX11_out_19 : decode cX11_out 19 = .ok (.isub, 1) := by decide +kernel
theorem dX11_out_20 : decode cX11_out 20 = .ok (.invokestatic 72, 3) := by decide +kernel
theorem dX11_out_23 : decode cX11_out 23 = .ok (.ifCond .eq 12, 3) := by decide +kernel
theorem dX11_out_26 : decode cX11_out 26 = .ok (.aload_n 0, 1) := by decide +kernel
theorem dX11_out_27 : decode cX11_out 27 = .ok (.getfield 23, 3) := by decide +kernel
theorem dX11_out_30 : decode cX11_out 30 = .ok (.iload_n 1, 1) := by decide +kernel
theorem dX11_out_31 : decode cX11_out 31 = .ok (.iaload, 1) := by decide +kernel
theorem dX11_out_32 : decode cX11_out 32 = .ok (.goto 4, 3) := by decide +kernel
theorem dX11_out_35 : decode cX11_out 35 = .ok (.iconst (-1), 1) := by decide +kernel
theorem dX11_out_36 : decode cX11_out 36 = .ok (.ireturn, 1) := by decide +kernel
theorem dX11_add_0 : decode cX11_add 0 = .ok (.aload_n 0, 1) := by decide +kernel
theorem dX11_add_1 : decode cX11_add 1 = .ok (.getfield 26, 3) := by decide +kernel
theorem dX11_add_4 : decode cX11_add 4 = .ok (.aload_n 0, 1) := by decide +kernel
theorem dX11_add_5 : decode cX11_add 5 = .ok (.getfield 94, 3) := by decide +kernel
theorem dX11_add_8 : decode cX11_add 8 = .ok (.iload_n 1, 1) := by decide +kernel
theorem dX11_add_9 : decode cX11_add 9 = .ok (.sipush 255, 3) := by decide +kernel
theorem dX11_add_12 : decode cX11_add 12 = .ok (.iand, 1) := by decide +kernel
theorem dX11_add_13 : decode cX11_add 13 = .ok (.iastore, 1) := by decide +kernel
theorem dX11_add_14 : decode cX11_add 14 = .ok (.aload_n 0, 1) := by decide +kernel
theorem dX11_add_15 : decode cX11_add 15 = .ok (.dup, 1) := by decide +kernel
theorem dX11_add_16 : decode cX11_add 16 = .ok (.getfield 94, 3) := by decide +kernel
theorem dX11_add_19 : decode cX11_add 19 = .ok (.iconst 1, 1) := by decide +kernel
theorem dX11_add_20 : decode cX11_add 20 = .ok (.iadd, 1) := by decide +kernel
theorem dX11_add_21 : decode cX11_add 21 = .ok (.putfield 94, 3) := by decide +kernel
theorem dX11_add_24 : decode cX11_add 24 = .ok (.return_, 1) := by decide +kernel
theorem dX11_isPacket_0 : decode cX11_isPacket 0 = .ok (.aload_n 0, 1) := by decide +kernel
theorem dX11_isPacket_1 : decode cX11_isPacket 1 = .ok (.getfield 78, 3) := by decide +kernel
theorem dX11_isPacket_4 : decode cX11_isPacket 4 = .ok (.bipush 40, 2) := by decide +kernel
theorem dX11_isPacket_6 : decode cX11_isPacket 6 = .ok (.if_icmp .lt 56, 3) := by decide +kernel
theorem dX11_isPacket_9 : decode cX11_isPacket 9 = .ok (.aload_n 0, 1) := by decide +kernel
theorem dX11_isPacket_10 : decode cX11_isPacket 10 = .ok (.getfield 20, 3) := by decide +kernel
theorem dX11_isPacket_13 : decode cX11_isPacket 13 = .ok (.iconst 0, 1) := by decide +kernel
theorem dX11_isPacket_14 : decode cX11_isPacket 14 = .ok (.iaload, 1) := by decide +kernel
theorem dX11_isPacket_15 : decode cX11_isPacket 15 = .ok (.iconst 4, 1) := by decide +kernel
theorem dX11_isPacket_16 : decode cX11_isPacket 16 = .ok (.ishr, 1) := by decide +kernel
theorem dX11_isPacket_17 : decode cX11_isPacket 17 = .ok (.bipush 6, 2) := by decide +kernel
theorem dX11_isPacket_19 : decode cX11_isPacket 19 = .ok (.if_icmp .ne 43, 3) := by decide +kernel
theorem dX11_isPacket_22 : decode cX11_isPacket 22 = .ok (.aload_n 0, 1) := by decide +kernel
theorem dX11_isPacket_23 : decode cX11_isPacket 23 = .ok (.getfield 20, 3) := by decide +kernel
theorem dX11_isPacket_26 : decode cX11_isPacket 26 = .ok (.iconst 4, 1) := by decide +kernel
theorem dX11_isPacket_27 : decode cX11_isPacket 27 = .ok (.iaload, 1) := by decide +kernel
theorem dX11_isPacket_28 : decode cX11_isPacket 28 = .ok (.bipush 8, 2) := by decide +kernel
theorem dX11_isPacket_30 : decode cX11_isPacket 30 = .ok (.ishl, 1) := by decide +kernel
theorem dX11_isPacket_31 : decode cX11_isPacket 31 = .ok (.aload_n 0, 1) := by decide +kernel
theorem dX11_isPacket_32 : decode cX11_isPacket 32 = .ok (.getfield 20, 3) := by decide +kernel
theorem dX11_isPacket_35 : decode cX11_isPacket 35 = .ok (.iconst 5, 1) := by decide +kernel
theorem dX11_isPacket_36 : decode cX11_isPacket 36 = .ok (.iaload, 1) := by decide +kernel
theorem dX11_isPacket_37 : decode cX11_isPacket 37 = .ok (.ior, 1) := by decide +kernel
theorem dX11_isPacket_38 : decode cX11_isPacket 38 = .ok (.aload_n 0, 1) := by decide +kernel
theorem dX11_isPacket_39 : decode cX11_isPacket 39 = .ok (.getfield 78, 3) := by decide +kernel
theorem dX11_isPacket_42 : decode cX11_isPacket 42 = .ok (.bipush 40, 2) := by decide +kernel
theorem dX11_isPacket_44 : decode cX11_isPacket 44 = .ok (.isub, 1) := by decide +kernel
theorem dX11_isPacket_45 : decode cX11_isPacket 45 = .ok (.if_icmp .ne 17, 3) := by decide +kernel
theorem dX11_isPacket_48 : decode cX11_isPacket 48 = .ok (.aload_n 0, 1) := by decide +kernel
theorem dX11_isPacket_49 : decode cX11_isPacket 49 = .ok (.getfield 78, 3) := by decide +kernel
theorem dX11_isPacket_52 : decode cX11_isPacket 52 = .ok (.sipush 600, 3) := by decide +kernel
theorem dX11_isPacket_55 : decode cX11_isPacket 55 = .ok (.if_icmp .gt 7, 3) := by decide +kernel
theorem dX11_isPacket_58 : decode cX11_isPacket 58 = .ok (.iconst 1, 1) := by decide +kernel
theorem dX11_isPacket_59 : decode cX11_isPacket 59 = .ok (.goto 4, 3) := by decide +kernel
theorem dX11_isPacket_62 : decode cX11_isPacket 62 = .ok (.iconst 0, 1) := by decide +kernel
theorem dX11_isPacket_63 : decode cX11_isPacket 63 = .ok (.ireturn, 1) := by decide +kernel
theorem dX11_isPlain_0 : decode cX11_isPlain 0 = .ok (.aload_n 0, 1) := by decide +kernel
theorem dX11_isPlain_1 : decode cX11_isPlain 1 = .ok (.getfield 20, 3) := by decide +kernel
theorem dX11_isPlain_4 : decode cX11_isPlain 4 = .ok (.iload_n 1, 1) := by decide +kernel
theorem dX11_isPlain_5 : decode cX11_isPlain 5 = .ok (.iaload, 1) := by decide +kernel
theorem dX11_isPlain_6 : decode cX11_isPlain 6 = .ok (.sipush 254, 3) := by decide +kernel
theorem dX11_isPlain_9 : decode cX11_isPlain 9 = .ok (.if_icmp .ne 21, 3) := by decide +kernel
theorem dX11_isPlain_12 : decode cX11_isPlain 12 = .ok (.aload_n 0, 1) := by decide +kernel
theorem dX11_isPlain_13 : decode cX11_isPlain 13 = .ok (.getfield 20, 3) := by decide +kernel
theorem dX11_isPlain_16 : decode cX11_isPlain 16 = .ok (.iload_n 1, 1) := by decide +kernel
theorem dX11_isPlain_17 : decode cX11_isPlain 17 = .ok (.iconst 1, 1) := by decide +kernel
theorem dX11_isPlain_18 : decode cX11_isPlain 18 = .ok (.iadd, 1) := by decide +kernel
theorem dX11_isPlain_19 : decode cX11_isPlain 19 = .ok (.iaload, 1) := by decide +kernel
theorem dX11_isPlain_20 : decode cX11_isPlain 20 = .ok (.sipush 128, 3) := by decide +kernel
theorem dX11_isPlain_23 : decode cX11_isPlain 23 = .ok (.if_icmp .ne 7, 3) := by decide +kernel
theorem dX11_isPlain_26 : decode cX11_isPlain 26 = .ok (.iconst 1, 1) := by decide +kernel
theorem dX11_isPlain_27 : decode cX11_isPlain 27 = .ok (.goto 4, 3) := by decide +kernel
theorem dX11_isPlain_30 : decode cX11_isPlain 30 = .ok (.iconst 0, 1) := by decide +kernel
theorem dX11_isPlain_31 : decode cX11_isPlain 31 = .ok (.istore_n 2, 1) := by decide +kernel
theorem dX11_isPlain_32 : decode cX11_isPlain 32 = .ok (.iconst 2, 1) := by decide +kernel
theorem dX11_isPlain_33 : decode cX11_isPlain 33 = .ok (.istore_n 3, 1) := by decide +kernel
theorem dX11_isPlain_34 : decode cX11_isPlain 34 = .ok (.iload_n 3, 1) := by decide +kernel
theorem dX11_isPlain_35 : decode cX11_isPlain 35 = .ok (.bipush 8, 2) := by decide +kernel
theorem dX11_isPlain_37 : decode cX11_isPlain 37 = .ok (.if_icmp .ge 30, 3) := by decide +kernel
theorem dX11_isPlain_40 : decode cX11_isPlain 40 = .ok (.iload_n 2, 1) := by decide +kernel
theorem dX11_isPlain_41 : decode cX11_isPlain 41 = .ok (.ifCond .eq 18, 3) := by decide +kernel
theorem dX11_isPlain_44 : decode cX11_isPlain 44 = .ok (.aload_n 0, 1) := by decide +kernel
theorem dX11_isPlain_45 : decode cX11_isPlain 45 = .ok (.getfield 20, 3) := by decide +kernel
theorem dX11_isPlain_48 : decode cX11_isPlain 48 = .ok (.iload_n 1, 1) := by decide +kernel
theorem dX11_isPlain_49 : decode cX11_isPlain 49 = .ok (.iload_n 3, 1) := by decide +kernel
theorem dX11_isPlain_50 : decode cX11_isPlain 50 = .ok (.iadd, 1) := by decide +kernel
theorem dX11_isPlain_51 : decode cX11_isPlain 51 = .ok (.iaload, 1) := by decide +kernel
theorem dX11_isPlain_52 : decode cX11_isPlain 52 = .ok (.ifCond .ne 7, 3) := by decide +kernel
theorem dX11_isPlain_55 : decode cX11_isPlain 55 = .ok (.iconst 1, 1) := by decide +kernel
theorem dX11_isPlain_56 : decode cX11_isPlain 56 = .ok (.goto 4, 3) := by decide +kernel
theorem dX11_isPlain_59 : decode cX11_isPlain 59 = .ok (.iconst 0, 1) := by decide +kernel
theorem dX11_isPlain_60 : decode cX11_isPlain 60 = .ok (.istore_n 2, 1) := by decide +kernel
theorem dX11_isPlain_61 : decode cX11_isPlain 61 = .ok (.iinc 3 1, 3) := by decide +kernel
theorem dX11_isPlain_64 : decode cX11_isPlain 64 = .ok (.goto (-30), 3) := by decide +kernel
theorem dX11_isPlain_67 : decode cX11_isPlain 67 = .ok (.iload_n 2, 1) := by decide +kernel
theorem dX11_isPlain_68 : decode cX11_isPlain 68 = .ok (.ireturn, 1) := by decide +kernel
theorem dX11_isZero_0 : decode cX11_isZero 0 = .ok (.iconst 1, 1) := by decide +kernel
theorem dX11_isZero_1 : decode cX11_isZero 1 = .ok (.istore_n 3, 1) := by decide +kernel
theorem dX11_isZero_2 : decode cX11_isZero 2 = .ok (.iload_n 1, 1) := by decide +kernel
theorem dX11_isZero_3 : decode cX11_isZero 3 = .ok (.istore 4, 2) := by decide +kernel
theorem dX11_isZero_5 : decode cX11_isZero 5 = .ok (.iload 4, 2) := by decide +kernel
theorem dX11_isZero_7 : decode cX11_isZero 7 = .ok (.iload_n 2, 1) := by decide +kernel
theorem dX11_isZero_8 : decode cX11_isZero 8 = .ok (.if_icmp .ge 29, 3) := by decide +kernel
theorem dX11_isZero_11 : decode cX11_isZero 11 = .ok (.iload_n 3, 1) := by decide +kernel
theorem dX11_isZero_12 : decode cX11_isZero 12 = .ok (.ifCond .eq 17, 3) := by decide +kernel
theorem dX11_isZero_15 : decode cX11_isZero 15 = .ok (.aload_n 0, 1) := by decide +kernel
theorem dX11_isZero_16 : decode cX11_isZero 16 = .ok (.getfield 20, 3) := by decide +kernel
theorem dX11_isZero_19 : decode cX11_isZero 19 = .ok (.iload 4, 2) := by decide +kernel
theorem dX11_isZero_21 : decode cX11_isZero 21 = .ok (.iaload, 1) := by decide +kernel
theorem dX11_isZero_22 : decode cX11_isZero 22 = .ok (.ifCond .ne 7, 3) := by decide +kernel
theorem dX11_isZero_25 : decode cX11_isZero 25 = .ok (.iconst 1, 1) := by decide +kernel
theorem dX11_isZero_26 : decode cX11_isZero 26 = .ok (.goto 4, 3) := by decide +kernel
theorem dX11_isZero_29 : decode cX11_isZero 29 = .ok (.iconst 0, 1) := by decide +kernel
theorem dX11_isZero_30 : decode cX11_isZero 30 = .ok (.istore_n 3, 1) := by decide +kernel
theorem dX11_isZero_31 : decode cX11_isZero 31 = .ok (.iinc 4 1, 3) := by decide +kernel
theorem dX11_isZero_34 : decode cX11_isZero 34 = .ok (.goto (-29), 3) := by decide +kernel
theorem dX11_isZero_37 : decode cX11_isZero 37 = .ok (.iload_n 3, 1) := by decide +kernel
theorem dX11_isZero_38 : decode cX11_isZero 38 = .ok (.ireturn, 1) := by decide +kernel
theorem dX11_contextOf_0 : decode cX11_contextOf 0 = .ok (.iconst 0, 1) := by decide +kernel
theorem dX11_contextOf_1 : decode cX11_contextOf 1 = .ok (.istore_n 2, 1) := by decide +kernel
theorem dX11_contextOf_2 : decode cX11_contextOf 2 = .ok (.iload_n 2, 1) := by decide +kernel
theorem dX11_contextOf_3 : decode cX11_contextOf 3 = .ok (.bipush 16, 2) := by decide +kernel
theorem dX11_contextOf_5 : decode cX11_contextOf 5 = .ok (.if_icmp .ge 72, 3) := by decide +kernel
theorem dX11_contextOf_8 : decode cX11_contextOf 8 = .ok (.aload_n 0, 1) := by decide +kernel
theorem dX11_contextOf_9 : decode cX11_contextOf 9 = .ok (.getfield 7, 3) := by decide +kernel
theorem dX11_contextOf_12 : decode cX11_contextOf 12 = .ok (.iload_n 2, 1) := by decide +kernel
theorem dX11_contextOf_13 : decode cX11_contextOf 13 = .ok (.baload, 1) := by decide +kernel
theorem dX11_contextOf_14 : decode cX11_contextOf 14 = .ok (.istore_n 3, 1) := by decide +kernel
theorem dX11_contextOf_15 : decode cX11_contextOf 15 = .ok (.iconst 0, 1) := by decide +kernel
theorem dX11_contextOf_16 : decode cX11_contextOf 16 = .ok (.istore 4, 2) := by decide +kernel
theorem dX11_contextOf_18 : decode cX11_contextOf 18 = .ok (.iload 4, 2) := by decide +kernel
theorem dX11_contextOf_20 : decode cX11_contextOf 20 = .ok (.bipush 8, 2) := by decide +kernel
theorem dX11_contextOf_22 : decode cX11_contextOf 22 = .ok (.if_icmp .ge 43, 3) := by decide +kernel
theorem dX11_contextOf_25 : decode cX11_contextOf 25 = .ok (.iload_n 3, 1) := by decide +kernel
theorem dX11_contextOf_26 : decode cX11_contextOf 26 = .ok (.ifCond .eq 31, 3) := by decide +kernel
theorem dX11_contextOf_29 : decode cX11_contextOf 29 = .ok (.aload_n 0, 1) := by decide +kernel
theorem dX11_contextOf_30 : decode cX11_contextOf 30 = .ok (.getfield 13, 3) := by decide +kernel
theorem dX11_contextOf_33 : decode cX11_contextOf 33 = .ok (.bipush 8, 2) := by decide +kernel
theorem dX11_contextOf_35 : decode cX11_contextOf 35 = .ok (.iload_n 2, 1) := by decide +kernel
theorem dX11_contextOf_36 : decode cX11_contextOf 36 = .ok (.imul, 1) := by decide +kernel
theorem dX11_contextOf_37 : decode cX11_contextOf 37 = .ok (.iload 4, 2) := by decide +kernel
theorem dX11_contextOf_39 : decode cX11_contextOf 39 = .ok (.iadd, 1) := by decide +kernel
theorem dX11_contextOf_40 : decode cX11_contextOf 40 = .ok (.iaload, 1) := by decide +kernel
theorem dX11_contextOf_41 : decode cX11_contextOf 41 = .ok (.aload_n 0, 1) := by decide +kernel
theorem dX11_contextOf_42 : decode cX11_contextOf 42 = .ok (.getfield 20, 3) := by decide +kernel
theorem dX11_contextOf_45 : decode cX11_contextOf 45 = .ok (.iload_n 1, 1) := by decide +kernel
theorem dX11_contextOf_46 : decode cX11_contextOf 46 = .ok (.iload 4, 2) := by decide +kernel
theorem dX11_contextOf_48 : decode cX11_contextOf 48 = .ok (.iadd, 1) := by decide +kernel
theorem dX11_contextOf_49 : decode cX11_contextOf 49 = .ok (.iaload, 1) := by decide +kernel
theorem dX11_contextOf_50 : decode cX11_contextOf 50 = .ok (.if_icmp .ne 7, 3) := by decide +kernel
theorem dX11_contextOf_53 : decode cX11_contextOf 53 = .ok (.iconst 1, 1) := by decide +kernel
theorem dX11_contextOf_54 : decode cX11_contextOf 54 = .ok (.goto 4, 3) := by decide +kernel
theorem dX11_contextOf_57 : decode cX11_contextOf 57 = .ok (.iconst 0, 1) := by decide +kernel
theorem dX11_contextOf_58 : decode cX11_contextOf 58 = .ok (.istore_n 3, 1) := by decide +kernel
theorem dX11_contextOf_59 : decode cX11_contextOf 59 = .ok (.iinc 4 1, 3) := by decide +kernel
theorem dX11_contextOf_62 : decode cX11_contextOf 62 = .ok (.goto (-44), 3) := by decide +kernel
theorem dX11_contextOf_65 : decode cX11_contextOf 65 = .ok (.iload_n 3, 1) := by decide +kernel
theorem dX11_contextOf_66 : decode cX11_contextOf 66 = .ok (.ifCond .eq 5, 3) := by decide +kernel
theorem dX11_contextOf_69 : decode cX11_contextOf 69 = .ok (.iload_n 2, 1) := by decide +kernel
theorem dX11_contextOf_70 : decode cX11_contextOf 70 = .ok (.ireturn, 1) := by decide +kernel
theorem dX11_contextOf_71 : decode cX11_contextOf 71 = .ok (.iinc 2 1, 3) := by decide +kernel
theorem dX11_contextOf_74 : decode cX11_contextOf 74 = .ok (.goto (-72), 3) := by decide +kernel
theorem dX11_contextOf_77 : decode cX11_contextOf 77 = .ok (.iconst (-1), 1) := by decide +kernel
theorem dX11_contextOf_78 : decode cX11_contextOf 78 = .ok (.ireturn, 1) := by decide +kernel
theorem dX11_lastsOf_0 : decode cX11_lastsOf 0 = .ok (.iconst 1, 1) := by decide +kernel
theorem dX11_lastsOf_1 : decode cX11_lastsOf 1 = .ok (.istore_n 3, 1) := by decide +kernel
theorem dX11_lastsOf_2 : decode cX11_lastsOf 2 = .ok (.iconst 0, 1) := by decide +kernel
theorem dX11_lastsOf_3 : decode cX11_lastsOf 3 = .ok (.istore 4, 2) := by decide +kernel
theorem dX11_lastsOf_5 : decode cX11_lastsOf 5 = .ok (.iload 4, 2) := by decide +kernel
theorem dX11_lastsOf_7 : decode cX11_lastsOf 7 = .ok (.bipush 8, 2) := by decide +kernel
theorem dX11_lastsOf_9 : decode cX11_lastsOf 9 = .ok (.if_icmp .ge 46, 3) := by decide +kernel
theorem dX11_lastsOf_12 : decode cX11_lastsOf 12 = .ok (.iload_n 3, 1) := by decide +kernel
theorem dX11_lastsOf_13 : decode cX11_lastsOf 13 = .ok (.ifCond .eq 34, 3) := by decide +kernel
theorem dX11_lastsOf_16 : decode cX11_lastsOf 16 = .ok (.aload_n 0, 1) := by decide +kernel
theorem dX11_lastsOf_17 : decode cX11_lastsOf 17 = .ok (.getfield 20, 3) := by decide +kernel
theorem dX11_lastsOf_20 : decode cX11_lastsOf 20 = .ok (.iload_n 1, 1) := by decide +kernel
theorem dX11_lastsOf_21 : decode cX11_lastsOf 21 = .ok (.bipush 8, 2) := by decide +kernel
theorem dX11_lastsOf_23 : decode cX11_lastsOf 23 = .ok (.iadd, 1) := by decide +kernel
theorem dX11_lastsOf_24 : decode cX11_lastsOf 24 = .ok (.iload 4, 2) := by decide +kernel
theorem dX11_lastsOf_26 : decode cX11_lastsOf 26 = .ok (.iadd, 1) := by decide +kernel
theorem dX11_lastsOf_27 : decode cX11_lastsOf 27 = .ok (.iaload, 1) := by decide +kernel
theorem dX11_lastsOf_28 : decode cX11_lastsOf 28 = .ok (.aload_n 0, 1) := by decide +kernel
theorem dX11_lastsOf_29 : decode cX11_lastsOf 29 = .ok (.getfield 17, 3) := by decide +kernel
theorem dX11_lastsOf_32 : decode cX11_lastsOf 32 = .ok (.bipush 8, 2) := by decide +kernel
theorem dX11_lastsOf_34 : decode cX11_lastsOf 34 = .ok (.iload_n 2, 1) := by decide +kernel
theorem dX11_lastsOf_35 : decode cX11_lastsOf 35 = .ok (.imul, 1) := by decide +kernel
theorem dX11_lastsOf_36 : decode cX11_lastsOf 36 = .ok (.iload 4, 2) := by decide +kernel
theorem dX11_lastsOf_38 : decode cX11_lastsOf 38 = .ok (.iadd, 1) := by decide +kernel
theorem dX11_lastsOf_39 : decode cX11_lastsOf 39 = .ok (.iaload, 1) := by decide +kernel
theorem dX11_lastsOf_40 : decode cX11_lastsOf 40 = .ok (.if_icmp .ne 7, 3) := by decide +kernel
theorem dX11_lastsOf_43 : decode cX11_lastsOf 43 = .ok (.iconst 1, 1) := by decide +kernel
theorem dX11_lastsOf_44 : decode cX11_lastsOf 44 = .ok (.goto 4, 3) := by decide +kernel
theorem dX11_lastsOf_47 : decode cX11_lastsOf 47 = .ok (.iconst 0, 1) := by decide +kernel
theorem dX11_lastsOf_48 : decode cX11_lastsOf 48 = .ok (.istore_n 3, 1) := by decide +kernel
theorem dX11_lastsOf_49 : decode cX11_lastsOf 49 = .ok (.iinc 4 1, 3) := by decide +kernel
theorem dX11_lastsOf_52 : decode cX11_lastsOf 52 = .ok (.goto (-47), 3) := by decide +kernel
theorem dX11_lastsOf_55 : decode cX11_lastsOf 55 = .ok (.iload_n 3, 1) := by decide +kernel
theorem dX11_lastsOf_56 : decode cX11_lastsOf 56 = .ok (.ifCond .eq 5, 3) := by decide +kernel
theorem dX11_lastsOf_59 : decode cX11_lastsOf 59 = .ok (.iconst 3, 1) := by decide +kernel
theorem dX11_lastsOf_60 : decode cX11_lastsOf 60 = .ok (.ireturn, 1) := by decide +kernel
theorem dX11_lastsOf_61 : decode cX11_lastsOf 61 = .ok (.aload_n 0, 1) := by decide +kernel
theorem dX11_lastsOf_62 : decode cX11_lastsOf 62 = .ok (.iload_n 1, 1) := by decide +kernel
theorem dX11_lastsOf_63 : decode cX11_lastsOf 63 = .ok (.bipush 8, 2) := by decide +kernel
theorem dX11_lastsOf_65 : decode cX11_lastsOf 65 = .ok (.iadd, 1) := by decide +kernel
theorem dX11_lastsOf_66 : decode cX11_lastsOf 66 = .ok (.iload_n 1, 1) := by decide +kernel
theorem dX11_lastsOf_67 : decode cX11_lastsOf 67 = .ok (.bipush 11, 2) := by decide +kernel
theorem dX11_lastsOf_69 : decode cX11_lastsOf 69 = .ok (.iadd, 1) := by decide +kernel
theorem dX11_lastsOf_70 : decode cX11_lastsOf 70 = .ok (.invokevirtual 97, 3) := by decide +kernel
theorem dX11_lastsOf_73 : decode cX11_lastsOf 73 = .ok (.ifCond .eq 49, 3) := by decide +kernel
theorem dX11_lastsOf_76 : decode cX11_lastsOf 76 = .ok (.aload_n 0, 1) := by decide +kernel
theorem dX11_lastsOf_77 : decode cX11_lastsOf 77 = .ok (.getfield 20, 3) := by decide +kernel
theorem dX11_lastsOf_80 : decode cX11_lastsOf 80 = .ok (.iload_n 1, 1) := by decide +kernel
theorem dX11_lastsOf_81 : decode cX11_lastsOf 81 = .ok (.bipush 11, 2) := by decide +kernel
theorem dX11_lastsOf_83 : decode cX11_lastsOf 83 = .ok (.iadd, 1) := by decide +kernel
theorem dX11_lastsOf_84 : decode cX11_lastsOf 84 = .ok (.iaload, 1) := by decide +kernel
theorem dX11_lastsOf_85 : decode cX11_lastsOf 85 = .ok (.sipush 255, 3) := by decide +kernel
theorem dX11_lastsOf_88 : decode cX11_lastsOf 88 = .ok (.if_icmp .ne 34, 3) := by decide +kernel
theorem dX11_lastsOf_91 : decode cX11_lastsOf 91 = .ok (.aload_n 0, 1) := by decide +kernel
theorem dX11_lastsOf_92 : decode cX11_lastsOf 92 = .ok (.getfield 20, 3) := by decide +kernel
theorem dX11_lastsOf_95 : decode cX11_lastsOf 95 = .ok (.iload_n 1, 1) := by decide +kernel
theorem dX11_lastsOf_96 : decode cX11_lastsOf 96 = .ok (.bipush 12, 2) := by decide +kernel
theorem dX11_lastsOf_98 : decode cX11_lastsOf 98 = .ok (.iadd, 1) := by decide +kernel
theorem dX11_lastsOf_99 : decode cX11_lastsOf 99 = .ok (.iaload, 1) := by decide +kernel
theorem dX11_lastsOf_100 : decode cX11_lastsOf 100 = .ok (.sipush 254, 3) := by decide +kernel
theorem dX11_lastsOf_103 : decode cX11_lastsOf 103 = .ok (.if_icmp .ne 19, 3) := by decide +kernel
theorem dX11_lastsOf_106 : decode cX11_lastsOf 106 = .ok (.aload_n 0, 1) := by decide +kernel
theorem dX11_lastsOf_107 : decode cX11_lastsOf 107 = .ok (.getfield 20, 3) := by decide +kernel
theorem dX11_lastsOf_110 : decode cX11_lastsOf 110 = .ok (.iload_n 1, 1) := by decide +kernel
theorem dX11_lastsOf_111 : decode cX11_lastsOf 111 = .ok (.bipush 13, 2) := by decide +kernel
theorem dX11_lastsOf_113 : decode cX11_lastsOf 113 = .ok (.iadd, 1) := by decide +kernel
theorem dX11_lastsOf_114 : decode cX11_lastsOf 114 = .ok (.iaload, 1) := by decide +kernel
theorem dX11_lastsOf_115 : decode cX11_lastsOf 115 = .ok (.ifCond .ne 7, 3) := by decide +kernel
theorem dX11_lastsOf_118 : decode cX11_lastsOf 118 = .ok (.iconst 1, 1) := by decide +kernel
theorem dX11_lastsOf_119 : decode cX11_lastsOf 119 = .ok (.goto 4, 3) := by decide +kernel
theorem dX11_lastsOf_122 : decode cX11_lastsOf 122 = .ok (.iconst 0, 1) := by decide +kernel
theorem dX11_lastsOf_123 : decode cX11_lastsOf 123 = .ok (.istore 4, 2) := by decide +kernel
theorem dX11_lastsOf_125 : decode cX11_lastsOf 125 = .ok (.iload 4, 2) := by decide +kernel
theorem dX11_lastsOf_127 : decode cX11_lastsOf 127 = .ok (.ifCond .eq 7, 3) := by decide +kernel
theorem dX11_lastsOf_130 : decode cX11_lastsOf 130 = .ok (.iconst 2, 1) := by decide +kernel
theorem dX11_lastsOf_131 : decode cX11_lastsOf 131 = .ok (.goto 4, 3) := by decide +kernel
theorem dX11_lastsOf_134 : decode cX11_lastsOf 134 = .ok (.iconst 1, 1) := by decide +kernel
theorem dX11_lastsOf_135 : decode cX11_lastsOf 135 = .ok (.ireturn, 1) := by decide +kernel
theorem dX11_groupOf_0 : decode cX11_groupOf 0 = .ok (.aload_n 0, 1) := by decide +kernel
theorem dX11_groupOf_1 : decode cX11_groupOf 1 = .ok (.bipush 26, 2) := by decide +kernel
theorem dX11_groupOf_3 : decode cX11_groupOf 3 = .ok (.bipush 35, 2) := by decide +kernel
theorem dX11_groupOf_5 : decode cX11_groupOf 5 = .ok (.invokevirtual 97, 3) := by decide +kernel
theorem dX11_groupOf_8 : decode cX11_groupOf 8 = .ok (.ifCond .ne 5, 3) := by decide +kernel
theorem dX11_groupOf_11 : decode cX11_groupOf 11 = .ok (.iconst 0, 1) := by decide +kernel
theorem dX11_groupOf_12 : decode cX11_groupOf 12 = .ok (.ireturn, 1) := by decide +kernel
theorem dX11_groupOf_13 : decode cX11_groupOf 13 = .ok (.aload_n 0, 1) := by decide +kernel
theorem dX11_groupOf_14 : decode cX11_groupOf 14 = .ok (.bipush 35, 2) := by decide +kernel
theorem dX11_groupOf_16 : decode cX11_groupOf 16 = .ok (.bipush 37, 2) := by decide +kernel
theorem dX11_groupOf_18 : decode cX11_groupOf 18 = .ok (.invokevirtual 97, 3) := by decide +kernel
theorem dX11_groupOf_21 : decode cX11_groupOf 21 = .ok (.ifCond .ne 5, 3) := by decide +kernel
theorem dX11_groupOf_24 : decode cX11_groupOf 24 = .ok (.iconst 1, 1) := by decide +kernel
theorem dX11_groupOf_25 : decode cX11_groupOf 25 = .ok (.ireturn, 1) := by decide +kernel
theorem dX11_groupOf_26 : decode cX11_groupOf 26 = .ok (.aload_n 0, 1) := by decide +kernel
theorem dX11_groupOf_27 : decode cX11_groupOf 27 = .ok (.bipush 37, 2) := by decide +kernel
theorem dX11_groupOf_29 : decode cX11_groupOf 29 = .ok (.bipush 39, 2) := by decide +kernel
theorem dX11_groupOf_31 : decode cX11_groupOf 31 = .ok (.invokevirtual 97, 3) := by decide +kernel
theorem dX11_groupOf_34 : decode cX11_groupOf 34 = .ok (.ifCond .eq 18, 3) := by decide +kernel
theorem dX11_groupOf_37 : decode cX11_groupOf 37 = .ok (.aload_n 0, 1) := by decide +kernel
theorem dX11_groupOf_38 : decode cX11_groupOf 38 = .ok (.getfield 20, 3) := by decide +kernel
theorem dX11_groupOf_41 : decode cX11_groupOf 41 = .ok (.bipush 25, 2) := by decide +kernel
theorem dX11_groupOf_43 : decode cX11_groupOf 43 = .ok (.iaload, 1) := by decide +kernel
theorem dX11_groupOf_44 : decode cX11_groupOf 44 = .ok (.iconst 2, 1) := by decide +kernel
theorem dX11_groupOf_45 : decode cX11_groupOf 45 = .ok (.if_icmp .ne 7, 3) := by decide +kernel
theorem dX11_groupOf_48 : decode cX11_groupOf 48 = .ok (.iconst 3, 1) := by decide +kernel
theorem dX11_groupOf_49 : decode cX11_groupOf 49 = .ok (.goto 4, 3) := by decide +kernel
theorem dX11_groupOf_52 : decode cX11_groupOf 52 = .ok (.iconst 2, 1) := by decide +kernel
theorem dX11_groupOf_53 : decode cX11_groupOf 53 = .ok (.ireturn, 1) := by decide +kernel
theorem dX11_addLasts_0 : decode cX11_addLasts 0 = .ok (.iload_n 2, 1) := by decide +kernel
theorem dX11_addLasts_1 : decode cX11_addLasts 1 = .ok (.iconst 1, 1) := by decide +kernel
theorem dX11_addLasts_2 : decode cX11_addLasts 2 = .ok (.if_icmp .ne 8, 3) := by decide +kernel
theorem dX11_addLasts_5 : decode cX11_addLasts 5 = .ok (.bipush 8, 2) := by decide +kernel
theorem dX11_addLasts_7 : decode cX11_addLasts 7 = .ok (.goto 15, 3) := by decide +kernel
theorem dX11_addLasts_10 : decode cX11_addLasts 10 = .ok (.iload_n 2, 1) := by decide +kernel
theorem dX11_addLasts_11 : decode cX11_addLasts 11 = .ok (.iconst 2, 1) := by decide +kernel
theorem dX11_addLasts_12 : decode cX11_addLasts 12 = .ok (.if_icmp .ne 8, 3) := by decide +kernel
theorem dX11_addLasts_15 : decode cX11_addLasts 15 = .ok (.bipush 14, 2) := by decide +kernel
theorem dX11_addLasts_17 : decode cX11_addLasts 17 = .ok (.goto 5, 3) := by decide +kernel
theorem dX11_addLasts_20 : decode cX11_addLasts 20 = .ok (.bipush 16, 2) := by decide +kernel
theorem dX11_addLasts_22 : decode cX11_addLasts 22 = .ok (.istore_n 3, 1) := by decide +kernel
theorem dX11_addLasts_23 : decode cX11_addLasts 23 = .ok (.iload_n 3, 1) := by decide +kernel
theorem dX11_addLasts_24 : decode cX11_addLasts 24 = .ok (.bipush 16, 2) := by decide +kernel
theorem dX11_addLasts_26 : decode cX11_addLasts 26 = .ok (.if_icmp .ge 21, 3) := by decide +kernel
theorem dX11_addLasts_29 : decode cX11_addLasts 29 = .ok (.aload_n 0, 1) := by decide +kernel
theorem dX11_addLasts_30 : decode cX11_addLasts 30 = .ok (.aload_n 0, 1) := by decide +kernel
theorem dX11_addLasts_31 : decode cX11_addLasts 31 = .ok (.getfield 20, 3) := by decide +kernel
theorem dX11_addLasts_34 : decode cX11_addLasts 34 = .ok (.iload_n 1, 1) := by decide +kernel
theorem dX11_addLasts_35 : decode cX11_addLasts 35 = .ok (.iload_n 3, 1) := by decide +kernel
theorem dX11_addLasts_36 : decode cX11_addLasts 36 = .ok (.iadd, 1) := by decide +kernel
theorem dX11_addLasts_37 : decode cX11_addLasts 37 = .ok (.iaload, 1) := by decide +kernel
theorem dX11_addLasts_38 : decode cX11_addLasts 38 = .ok (.invokevirtual 101, 3) := by decide +kernel
theorem dX11_addLasts_41 : decode cX11_addLasts 41 = .ok (.iinc 3 1, 3) := by decide +kernel
theorem dX11_addLasts_44 : decode cX11_addLasts 44 = .ok (.goto (-21), 3) := by decide +kernel
theorem dX11_addLasts_47 : decode cX11_addLasts 47 = .ok (.return_, 1) := by decide +kernel
theorem dX11_addAll_0 : decode cX11_addAll 0 = .ok (.iconst 0, 1) := by decide +kernel
theorem dX11_addAll_1 : decode cX11_addAll 1 = .ok (.istore_n 2, 1) := by decide +kernel
theorem dX11_addAll_2 : decode cX11_addAll 2 = .ok (.iload_n 2, 1) := by decide +kernel
theorem dX11_addAll_3 : decode cX11_addAll 3 = .ok (.bipush 16, 2) := by decide +kernel
theorem dX11_addAll_5 : decode cX11_addAll 5 = .ok (.if_icmp .ge 21, 3) := by decide +kernel
theorem dX11_addAll_8 : decode cX11_addAll 8 = .ok (.aload_n 0, 1) := by decide +kernel
theorem dX11_addAll_9 : decode cX11_addAll 9 = .ok (.aload_n 0, 1) := by decide +kernel
theorem dX11_addAll_10 : decode cX11_addAll 10 = .ok (.getfield 20, 3) := by decide +kernel
theorem dX11_addAll_13 : decode cX11_addAll 13 = .ok (.iload_n 1, 1) := by decide +kernel
theorem dX11_addAll_14 : decode cX11_addAll 14 = .ok (.iload_n 2, 1) := by decide +kernel
theorem dX11_addAll_15 : decode cX11_addAll 15 = .ok (.iadd, 1) := by decide +kernel
theorem dX11_addAll_16 : decode cX11_addAll 16 = .ok (.iaload, 1) := by decide +kernel
theorem dX11_addAll_17 : decode cX11_addAll 17 = .ok (.invokevirtual 101, 3) := by decide +kernel
theorem dX11_addAll_20 : decode cX11_addAll 20 = .ok (.iinc 2 1, 3) := by decide +kernel
theorem dX11_addAll_23 : decode cX11_addAll 23 = .ok (.goto (-21), 3) := by decide +kernel
theorem dX11_addAll_26 : decode cX11_addAll 26 = .ok (.return_, 1) := by decide +kernel
theorem dX11_sorts_0 : decode cX11_sorts 0 = .ok (.aload_n 0, 1) := by decide +kernel
theorem dX11_sorts_1 : decode cX11_sorts 1 = .ok (.iconst 0, 1) := by decide +kernel
theorem dX11_sorts_2 : decode cX11_sorts 2 = .ok (.putfield 104, 3) := by decide +kernel
theorem dX11_sorts_5 : decode cX11_sorts 5 = .ok (.aload_n 0, 1) := by decide +kernel
theorem dX11_sorts_6 : decode cX11_sorts 6 = .ok (.iconst 0, 1) := by decide +kernel
theorem dX11_sorts_7 : decode cX11_sorts 7 = .ok (.putfield 107, 3) := by decide +kernel
theorem dX11_sorts_10 : decode cX11_sorts 10 = .ok (.aload_n 0, 1) := by decide +kernel
theorem dX11_sorts_11 : decode cX11_sorts 11 = .ok (.iconst 0, 1) := by decide +kernel
theorem dX11_sorts_12 : decode cX11_sorts 12 = .ok (.putfield 110, 3) := by decide +kernel
theorem dX11_sorts_15 : decode cX11_sorts 15 = .ok (.aload_n 0, 1) := by decide +kernel
theorem dX11_sorts_16 : decode cX11_sorts 16 = .ok (.bipush 8, 2) := by decide +kernel
theorem dX11_sorts_18 : decode cX11_sorts 18 = .ok (.invokevirtual 113, 3) := by decide +kernel
theorem dX11_sorts_21 : decode cX11_sorts 21 = .ok (.ifCond .eq 17, 3) := by decide +kernel
theorem dX11_sorts_24 : decode cX11_sorts 24 = .ok (.aload_n 0, 1) := by decide +kernel
theorem dX11_sorts_25 : decode cX11_sorts 25 = .ok (.aload_n 0, 1) := by decide +kernel
theorem dX11_sorts_26 : decode cX11_sorts 26 = .ok (.bipush 8, 2) := by decide +kernel
theorem dX11_sorts_28 : decode cX11_sorts 28 = .ok (.iconst 0, 1) := by decide +kernel
theorem dX11_sorts_29 : decode cX11_sorts 29 = .ok (.invokevirtual 117, 3) := by decide +kernel
theorem dX11_sorts_32 : decode cX11_sorts 32 = .ok (.putfield 107, 3) := by decide +kernel
theorem dX11_sorts_35 : decode cX11_sorts 35 = .ok (.goto 57, 3) := by decide +kernel
theorem dX11_sorts_38 : decode cX11_sorts 38 = .ok (.aload_n 0, 1) := by decide +kernel
theorem dX11_sorts_39 : decode cX11_sorts 39 = .ok (.bipush 8, 2) := by decide +kernel
theorem dX11_sorts_41 : decode cX11_sorts 41 = .ok (.bipush 24, 2) := by decide +kernel
theorem dX11_sorts_43 : decode cX11_sorts 43 = .ok (.invokevirtual 97, 3) := by decide +kernel
theorem dX11_sorts_46 : decode cX11_sorts 46 = .ok (.ifCond .eq 11, 3) := by decide +kernel
theorem dX11_sorts_49 : decode cX11_sorts 49 = .ok (.aload_n 0, 1) := by decide +kernel
theorem dX11_sorts_50 : decode cX11_sorts 50 = .ok (.iconst 1, 1) := by decide +kernel
theorem dX11_sorts_51 : decode cX11_sorts 51 = .ok (.putfield 104, 3) := by decide +kernel
theorem dX11_sorts_54 : decode cX11_sorts 54 = .ok (.goto 38, 3) := by decide +kernel
theorem dX11_sorts_57 : decode cX11_sorts 57 = .ok (.aload_n 0, 1) := by decide +kernel
theorem dX11_sorts_58 : decode cX11_sorts 58 = .ok (.bipush 8, 2) := by decide +kernel
theorem dX11_sorts_60 : decode cX11_sorts 60 = .ok (.invokevirtual 121, 3) := by decide +kernel
theorem dX11_sorts_63 : decode cX11_sorts 63 = .ok (.ifCond .lt 29, 3) := by decide +kernel
theorem dX11_sorts_66 : decode cX11_sorts 66 = .ok (.aload_n 0, 1) := by decide +kernel
theorem dX11_sorts_67 : decode cX11_sorts 67 = .ok (.iconst 1, 1) := by decide +kernel
theorem dX11_sorts_68 : decode cX11_sorts 68 = .ok (.putfield 104, 3) := by decide +kernel
theorem dX11_sorts_71 : decode cX11_sorts 71 = .ok (.aload_n 0, 1) := by decide +kernel
theorem dX11_sorts_72 : decode cX11_sorts 72 = .ok (.aload_n 0, 1) := by decide +kernel
theorem dX11_sorts_73 : decode cX11_sorts 73 = .ok (.bipush 8, 2) := by decide +kernel
theorem dX11_sorts_75 : decode cX11_sorts 75 = .ok (.invokevirtual 121, 3) := by decide +kernel
theorem dX11_sorts_78 : decode cX11_sorts 78 = .ok (.putfield 110, 3) := by decide +kernel
theorem dX11_sorts_81 : decode cX11_sorts 81 = .ok (.aload_n 0, 1) := by decide +kernel
theorem dX11_sorts_82 : decode cX11_sorts 82 = .ok (.aload_n 0, 1) := by decide +kernel
theorem dX11_sorts_83 : decode cX11_sorts 83 = .ok (.bipush 8, 2) := by decide +kernel
theorem dX11_sorts_85 : decode cX11_sorts 85 = .ok (.iconst 0, 1) := by decide +kernel
theorem dX11_sorts_86 : decode cX11_sorts 86 = .ok (.invokevirtual 117, 3) := by decide +kernel
theorem dX11_sorts_89 : decode cX11_sorts 89 = .ok (.putfield 107, 3) := by decide +kernel
theorem dX11_sorts_92 : decode cX11_sorts 92 = .ok (.aload_n 0, 1) := by decide +kernel
theorem dX11_sorts_93 : decode cX11_sorts 93 = .ok (.iconst 0, 1) := by decide +kernel
theorem dX11_sorts_94 : decode cX11_sorts 94 = .ok (.putfield 125, 3) := by decide +kernel
theorem dX11_sorts_97 : decode cX11_sorts 97 = .ok (.aload_n 0, 1) := by decide +kernel
theorem dX11_sorts_98 : decode cX11_sorts 98 = .ok (.iconst 0, 1) := by decide +kernel
theorem dX11_sorts_99 : decode cX11_sorts 99 = .ok (.putfield 128, 3) := by decide +kernel
theorem dX11_sorts_102 : decode cX11_sorts 102 = .ok (.aload_n 0, 1) := by decide +kernel
theorem dX11_sorts_103 : decode cX11_sorts 103 = .ok (.iconst 0, 1) := by decide +kernel
theorem dX11_sorts_104 : decode cX11_sorts 104 = .ok (.putfield 131, 3) := by decide +kernel
theorem dX11_sorts_107 : decode cX11_sorts 107 = .ok (.aload_n 0, 1) := by decide +kernel
theorem dX11_sorts_108 : decode cX11_sorts 108 = .ok (.iconst 0, 1) := by decide +kernel
theorem dX11_sorts_109 : decode cX11_sorts 109 = .ok (.putfield 134, 3) := by decide +kernel
theorem dX11_sorts_112 : decode cX11_sorts 112 = .ok (.aload_n 0, 1) := by decide +kernel
theorem dX11_sorts_113 : decode cX11_sorts 113 = .ok (.bipush 24, 2) := by decide +kernel
theorem dX11_sorts_115 : decode cX11_sorts 115 = .ok (.invokevirtual 113, 3) := by decide +kernel
theorem dX11_sorts_118 : decode cX11_sorts 118 = .ok (.ifCond .eq 17, 3) := by decide +kernel
theorem dX11_sorts_121 : decode cX11_sorts 121 = .ok (.aload_n 0, 1) := by decide +kernel
theorem dX11_sorts_122 : decode cX11_sorts 122 = .ok (.aload_n 0, 1) := by decide +kernel
theorem dX11_sorts_123 : decode cX11_sorts 123 = .ok (.bipush 24, 2) := by decide +kernel
theorem dX11_sorts_125 : decode cX11_sorts 125 = .ok (.iconst 1, 1) := by decide +kernel
theorem dX11_sorts_126 : decode cX11_sorts 126 = .ok (.invokevirtual 117, 3) := by decide +kernel
theorem dX11_sorts_129 : decode cX11_sorts 129 = .ok (.putfield 131, 3) := by decide +kernel
theorem dX11_sorts_132 : decode cX11_sorts 132 = .ok (.goto 67, 3) := by decide +kernel
theorem dX11_sorts_135 : decode cX11_sorts 135 = .ok (.aload_n 0, 1) := by decide +kernel
theorem dX11_sorts_136 : decode cX11_sorts 136 = .ok (.getfield 20, 3) := by decide +kernel
theorem dX11_sorts_139 : decode cX11_sorts 139 = .ok (.bipush 24, 2) := by decide +kernel
theorem dX11_sorts_141 : decode cX11_sorts 141 = .ok (.iaload, 1) := by decide +kernel
theorem dX11_sorts_142 : decode cX11_sorts 142 = .ok (.sipush 255, 3) := by decide +kernel
theorem dX11_sorts_145 : decode cX11_sorts 145 = .ok (.if_icmp .ne 19, 3) := by decide +kernel
theorem dX11_sorts_148 : decode cX11_sorts 148 = .ok (.aload_n 0, 1) := by decide +kernel
theorem dX11_sorts_149 : decode cX11_sorts 149 = .ok (.iconst 1, 1) := by decide +kernel
theorem dX11_sorts_150 : decode cX11_sorts 150 = .ok (.putfield 125, 3) := by decide +kernel
theorem dX11_sorts_153 : decode cX11_sorts 153 = .ok (.aload_n 0, 1) := by decide +kernel
theorem dX11_sorts_154 : decode cX11_sorts 154 = .ok (.aload_n 0, 1) := by decide +kernel
theorem dX11_sorts_155 : decode cX11_sorts 155 = .ok (.invokevirtual 137, 3) := by decide +kernel
theorem dX11_sorts_158 : decode cX11_sorts 158 = .ok (.putfield 131, 3) := by decide +kernel
theorem dX11_sorts_161 : decode cX11_sorts 161 = .ok (.goto 38, 3) := by decide +kernel
theorem dX11_sorts_164 : decode cX11_sorts 164 = .ok (.aload_n 0, 1) := by decide +kernel
theorem dX11_sorts_165 : decode cX11_sorts 165 = .ok (.bipush 24, 2) := by decide +kernel
theorem dX11_sorts_167 : decode cX11_sorts 167 = .ok (.invokevirtual 121, 3) := by decide +kernel
theorem dX11_sorts_170 : decode cX11_sorts 170 = .ok (.ifCond .lt 29, 3) := by decide +kernel
theorem dX11_sorts_173 : decode cX11_sorts 173 = .ok (.aload_n 0, 1) := by decide +kernel
theorem dX11_sorts_174 : decode cX11_sorts 174 = .ok (.iconst 1, 1) := by decide +kernel
theorem dX11_sorts_175 : decode cX11_sorts 175 = .ok (.putfield 128, 3) := by decide +kernel
theorem dX11_sorts_178 : decode cX11_sorts 178 = .ok (.aload_n 0, 1) := by decide +kernel
theorem dX11_sorts_179 : decode cX11_sorts 179 = .ok (.aload_n 0, 1) := by decide +kernel
theorem dX11_sorts_180 : decode cX11_sorts 180 = .ok (.bipush 24, 2) := by decide +kernel
theorem dX11_sorts_182 : decode cX11_sorts 182 = .ok (.invokevirtual 121, 3) := by decide +kernel
theorem dX11_sorts_185 : decode cX11_sorts 185 = .ok (.putfield 134, 3) := by decide +kernel
theorem dX11_sorts_188 : decode cX11_sorts 188 = .ok (.aload_n 0, 1) := by decide +kernel
theorem dX11_sorts_189 : decode cX11_sorts 189 = .ok (.aload_n 0, 1) := by decide +kernel
theorem dX11_sorts_190 : decode cX11_sorts 190 = .ok (.bipush 24, 2) := by decide +kernel
theorem dX11_sorts_192 : decode cX11_sorts 192 = .ok (.iconst 1, 1) := by decide +kernel
theorem dX11_sorts_193 : decode cX11_sorts 193 = .ok (.invokevirtual 117, 3) := by decide +kernel
theorem dX11_sorts_196 : decode cX11_sorts 196 = .ok (.putfield 131, 3) := by decide +kernel
theorem dX11_sorts_199 : decode cX11_sorts 199 = .ok (.return_, 1) := by decide +kernel
theorem dX11_squeezeTape_0 : decode cX11_squeezeTape 0 = .ok (.aload_n 0, 1) := by decide +kernel
theorem dX11_squeezeTape_1 : decode cX11_squeezeTape 1 = .ok (.iconst 0, 1) := by decide +kernel
theorem dX11_squeezeTape_2 : decode cX11_squeezeTape 2 = .ok (.putfield 94, 3) := by decide +kernel
theorem dX11_squeezeTape_5 : decode cX11_squeezeTape 5 = .ok (.aload_n 0, 1) := by decide +kernel
theorem dX11_squeezeTape_6 : decode cX11_squeezeTape 6 = .ok (.getfield 20, 3) := by decide +kernel
theorem dX11_squeezeTape_9 : decode cX11_squeezeTape 9 = .ok (.iconst 0, 1) := by decide +kernel
theorem dX11_squeezeTape_10 : decode cX11_squeezeTape 10 = .ok (.iaload, 1) := by decide +kernel
theorem dX11_squeezeTape_11 : decode cX11_squeezeTape 11 = .ok (.bipush 15, 2) := by decide +kernel
theorem dX11_squeezeTape_13 : decode cX11_squeezeTape 13 = .ok (.iand, 1) := by decide +kernel
theorem dX11_squeezeTape_14 : decode cX11_squeezeTape 14 = .ok (.iconst 4, 1) := by decide +kernel
theorem dX11_squeezeTape_15 : decode cX11_squeezeTape 15 = .ok (.ishl, 1) := by decide +kernel
theorem dX11_squeezeTape_16 : decode cX11_squeezeTape 16 = .ok (.aload_n 0, 1) := by decide +kernel
theorem dX11_squeezeTape_17 : decode cX11_squeezeTape 17 = .ok (.getfield 20, 3) := by decide +kernel
theorem dX11_squeezeTape_20 : decode cX11_squeezeTape 20 = .ok (.iconst 1, 1) := by decide +kernel
theorem dX11_squeezeTape_21 : decode cX11_squeezeTape 21 = .ok (.iaload, 1) := by decide +kernel
theorem dX11_squeezeTape_22 : decode cX11_squeezeTape 22 = .ok (.iconst 4, 1) := by decide +kernel
theorem dX11_squeezeTape_23 : decode cX11_squeezeTape 23 = .ok (.ishr, 1) := by decide +kernel
theorem dX11_squeezeTape_24 : decode cX11_squeezeTape 24 = .ok (.ior, 1) := by decide +kernel
theorem dX11_squeezeTape_25 : decode cX11_squeezeTape 25 = .ok (.istore_n 1, 1) := by decide +kernel
theorem dX11_squeezeTape_26 : decode cX11_squeezeTape 26 = .ok (.aload_n 0, 1) := by decide +kernel
theorem dX11_squeezeTape_27 : decode cX11_squeezeTape 27 = .ok (.getfield 20, 3) := by decide +kernel
theorem dX11_squeezeTape_30 : decode cX11_squeezeTape 30 = .ok (.iconst 1, 1) := by decide +kernel
theorem dX11_squeezeTape_31 : decode cX11_squeezeTape 31 = .ok (.iaload, 1) := by decide +kernel
theorem dX11_squeezeTape_32 : decode cX11_squeezeTape 32 = .ok (.bipush 15, 2) := by decide +kernel
theorem dX11_squeezeTape_34 : decode cX11_squeezeTape 34 = .ok (.iand, 1) := by decide +kernel
theorem dX11_squeezeTape_35 : decode cX11_squeezeTape 35 = .ok (.bipush 16, 2) := by decide +kernel
theorem dX11_squeezeTape_37 : decode cX11_squeezeTape 37 = .ok (.ishl, 1) := by decide +kernel
theorem dX11_squeezeTape_38 : decode cX11_squeezeTape 38 = .ok (.aload_n 0, 1) := by decide +kernel
theorem dX11_squeezeTape_39 : decode cX11_squeezeTape 39 = .ok (.getfield 20, 3) := by decide +kernel
theorem dX11_squeezeTape_42 : decode cX11_squeezeTape 42 = .ok (.iconst 2, 1) := by decide +kernel
theorem dX11_squeezeTape_43 : decode cX11_squeezeTape 43 = .ok (.iaload, 1) := by decide +kernel
theorem dX11_squeezeTape_44 : decode cX11_squeezeTape 44 = .ok (.bipush 8, 2) := by decide +kernel
theorem dX11_squeezeTape_46 : decode cX11_squeezeTape 46 = .ok (.ishl, 1) := by decide +kernel
theorem dX11_squeezeTape_47 : decode cX11_squeezeTape 47 = .ok (.ior, 1) := by decide +kernel
theorem dX11_squeezeTape_48 : decode cX11_squeezeTape 48 = .ok (.aload_n 0, 1) := by decide +kernel
theorem dX11_squeezeTape_49 : decode cX11_squeezeTape 49 = .ok (.getfield 20, 3) := by decide +kernel
theorem dX11_squeezeTape_52 : decode cX11_squeezeTape 52 = .ok (.iconst 3, 1) := by decide +kernel
theorem dX11_squeezeTape_53 : decode cX11_squeezeTape 53 = .ok (.iaload, 1) := by decide +kernel
theorem dX11_squeezeTape_54 : decode cX11_squeezeTape 54 = .ok (.ior, 1) := by decide +kernel
theorem dX11_squeezeTape_55 : decode cX11_squeezeTape 55 = .ok (.istore_n 2, 1) := by decide +kernel
theorem dX11_squeezeTape_56 : decode cX11_squeezeTape 56 = .ok (.iload_n 2, 1) := by decide +kernel
theorem dX11_squeezeTape_57 : decode cX11_squeezeTape 57 = .ok (.ifCond .ne 15, 3) := by decide +kernel
theorem dX11_squeezeTape_60 : decode cX11_squeezeTape 60 = .ok (.iload_n 1, 1) := by decide +kernel
theorem dX11_squeezeTape_61 : decode cX11_squeezeTape 61 = .ok (.ifCond .ne 7, 3) := by decide +kernel
theorem dX11_squeezeTape_64 : decode cX11_squeezeTape 64 = .ok (.iconst 3, 1) := by decide +kernel
theorem dX11_squeezeTape_65 : decode cX11_squeezeTape 65 = .ok (.goto 18, 3) := by decide +kernel
theorem dX11_squeezeTape_68 : decode cX11_squeezeTape 68 = .ok (.iconst 2, 1) := by decide +kernel
theorem dX11_squeezeTape_69 : decode cX11_squeezeTape 69 = .ok (.goto 14, 3) := by decide +kernel
theorem dX11_squeezeTape_72 : decode cX11_squeezeTape 72 = .ok (.iload_n 1, 1) := by decide +kernel
theorem dX11_squeezeTape_73 : decode cX11_squeezeTape 73 = .ok (.iconst 2, 1) := by decide +kernel
theorem dX11_squeezeTape_74 : decode cX11_squeezeTape 74 = .ok (.ishr, 1) := by decide +kernel
theorem dX11_squeezeTape_75 : decode cX11_squeezeTape 75 = .ok (.ifCond .ne 7, 3) := by decide +kernel
theorem dX11_squeezeTape_78 : decode cX11_squeezeTape 78 = .ok (.iconst 1, 1) := by decide +kernel
theorem dX11_squeezeTape_79 : decode cX11_squeezeTape 79 = .ok (.goto 4, 3) := by decide +kernel
theorem dX11_squeezeTape_82 : decode cX11_squeezeTape 82 = .ok (.iconst 0, 1) := by decide +kernel
theorem dX11_squeezeTape_83 : decode cX11_squeezeTape 83 = .ok (.istore_n 3, 1) := by decide +kernel
theorem dX11_squeezeTape_84 : decode cX11_squeezeTape 84 = .ok (.aload_n 0, 1) := by decide +kernel
theorem dX11_squeezeTape_85 : decode cX11_squeezeTape 85 = .ok (.getfield 78, 3) := by decide +kernel
theorem dX11_squeezeTape_88 : decode cX11_squeezeTape 88 = .ok (.bipush 40, 2) := by decide +kernel
theorem dX11_squeezeTape_90 : decode cX11_squeezeTape 90 = .ok (.isub, 1) := by decide +kernel
theorem dX11_squeezeTape_91 : decode cX11_squeezeTape 91 = .ok (.istore 4, 2) := by decide +kernel
theorem dX11_squeezeTape_93 : decode cX11_squeezeTape 93 = .ok (.aload_n 0, 1) := by decide +kernel
theorem dX11_squeezeTape_94 : decode cX11_squeezeTape 94 = .ok (.getfield 20, 3) := by decide +kernel
theorem dX11_squeezeTape_97 : decode cX11_squeezeTape 97 = .ok (.bipush 6, 2) := by decide +kernel
theorem dX11_squeezeTape_99 : decode cX11_squeezeTape 99 = .ok (.iaload, 1) := by decide +kernel
theorem dX11_squeezeTape_100 : decode cX11_squeezeTape 100 = .ok (.bipush 17, 2) := by decide +kernel
theorem dX11_squeezeTape_102 : decode cX11_squeezeTape 102 = .ok (.if_icmp .ne 37, 3) := by decide +kernel
theorem dX11_squeezeTape_105 : decode cX11_squeezeTape 105 = .ok (.iload 4, 2) := by decide +kernel
theorem dX11_squeezeTape_107 : decode cX11_squeezeTape 107 = .ok (.bipush 8, 2) := by decide +kernel
theorem dX11_squeezeTape_109 : decode cX11_squeezeTape 109 = .ok (.if_icmp .lt 30, 3) := by decide +kernel
theorem dX11_squeezeTape_112 : decode cX11_squeezeTape 112 = .ok (.aload_n 0, 1) := by decide +kernel
theorem dX11_squeezeTape_113 : decode cX11_squeezeTape 113 = .ok (.getfield 20, 3) := by decide +kernel
theorem dX11_squeezeTape_116 : decode cX11_squeezeTape 116 = .ok (.bipush 44, 2) := by decide +kernel
theorem dX11_squeezeTape_118 : decode cX11_squeezeTape 118 = .ok (.iaload, 1) := by decide +kernel
theorem dX11_squeezeTape_119 : decode cX11_squeezeTape 119 = .ok (.bipush 8, 2) := by decide +kernel
theorem dX11_squeezeTape_121 : decode cX11_squeezeTape 121 = .ok (.ishl, 1) := by decide +kernel
theorem dX11_squeezeTape_122 : decode cX11_squeezeTape 122 = .ok (.aload_n 0, 1) := by decide +kernel
theorem dX11_squeezeTape_123 : decode cX11_squeezeTape 123 = .ok (.getfield 20, 3) := by decide +kernel
theorem dX11_squeezeTape_126 : decode cX11_squeezeTape 126 = .ok (.bipush 45, 2) := by decide +kernel
theorem dX11_squeezeTape_128 : decode cX11_squeezeTape 128 = .ok (.iaload, 1) := by decide +kernel
theorem dX11_squeezeTape_129 : decode cX11_squeezeTape 129 = .ok (.ior, 1) := by decide +kernel
theorem dX11_squeezeTape_130 : decode cX11_squeezeTape 130 = .ok (.iload 4, 2) := by decide +kernel
theorem dX11_squeezeTape_132 : decode cX11_squeezeTape 132 = .ok (.if_icmp .ne 7, 3) := by decide +kernel
theorem dX11_squeezeTape_135 : decode cX11_squeezeTape 135 = .ok (.iconst 1, 1) := by decide +kernel
theorem dX11_squeezeTape_136 : decode cX11_squeezeTape 136 = .ok (.goto 4, 3) := by decide +kernel
theorem dX11_squeezeTape_139 : decode cX11_squeezeTape 139 = .ok (.iconst 0, 1) := by decide +kernel
theorem dX11_squeezeTape_140 : decode cX11_squeezeTape 140 = .ok (.istore 5, 2) := by decide +kernel
theorem dX11_squeezeTape_142 : decode cX11_squeezeTape 142 = .ok (.aload_n 0, 1) := by decide +kernel
theorem dX11_squeezeTape_143 : decode cX11_squeezeTape 143 = .ok (.getfield 20, 3) := by decide +kernel
theorem dX11_squeezeTape_146 : decode cX11_squeezeTape 146 = .ok (.bipush 7, 2) := by decide +kernel
theorem dX11_squeezeTape_148 : decode cX11_squeezeTape 148 = .ok (.iaload, 1) := by decide +kernel
theorem dX11_squeezeTape_149 : decode cX11_squeezeTape 149 = .ok (.iconst 1, 1) := by decide +kernel
theorem dX11_squeezeTape_150 : decode cX11_squeezeTape 150 = .ok (.if_icmp .ne 7, 3) := by decide +kernel
theorem dX11_squeezeTape_153 : decode cX11_squeezeTape 153 = .ok (.iconst 1, 1) := by decide +kernel
theorem dX11_squeezeTape_154 : decode cX11_squeezeTape 154 = .ok (.goto 37, 3) := by decide +kernel
theorem dX11_squeezeTape_157 : decode cX11_squeezeTape 157 = .ok (.aload_n 0, 1) := by decide +kernel
theorem dX11_squeezeTape_158 : decode cX11_squeezeTape 158 = .ok (.getfield 20, 3) := by decide +kernel
theorem dX11_squeezeTape_161 : decode cX11_squeezeTape 161 = .ok (.bipush 7, 2) := by decide +kernel
theorem dX11_squeezeTape_163 : decode cX11_squeezeTape 163 = .ok (.iaload, 1) := by decide +kernel
theorem dX11_squeezeTape_164 : decode cX11_squeezeTape 164 = .ok (.bipush 64, 2) := by decide +kernel
theorem dX11_squeezeTape_166 : decode cX11_squeezeTape 166 = .ok (.if_icmp .ne 7, 3) := by decide +kernel
theorem dX11_squeezeTape_169 : decode cX11_squeezeTape 169 = .ok (.iconst 2, 1) := by decide +kernel
theorem dX11_squeezeTape_170 : decode cX11_squeezeTape 170 = .ok (.goto 21, 3) := by decide +kernel
theorem dX11_squeezeTape_173 : decode cX11_squeezeTape 173 = .ok (.aload_n 0, 1) := by decide +kernel
theorem dX11_squeezeTape_174 : decode cX11_squeezeTape 174 = .ok (.getfield 20, 3) := by decide +kernel
theorem dX11_squeezeTape_177 : decode cX11_squeezeTape 177 = .ok (.bipush 7, 2) := by decide +kernel
theorem dX11_squeezeTape_179 : decode cX11_squeezeTape 179 = .ok (.iaload, 1) := by decide +kernel
theorem dX11_squeezeTape_180 : decode cX11_squeezeTape 180 = .ok (.sipush 255, 3) := by decide +kernel
theorem dX11_squeezeTape_183 : decode cX11_squeezeTape 183 = .ok (.if_icmp .ne 7, 3) := by decide +kernel
theorem dX11_squeezeTape_186 : decode cX11_squeezeTape 186 = .ok (.iconst 3, 1) := by decide +kernel
theorem dX11_squeezeTape_187 : decode cX11_squeezeTape 187 = .ok (.goto 4, 3) := by decide +kernel
theorem dX11_squeezeTape_190 : decode cX11_squeezeTape 190 = .ok (.iconst 0, 1) := by decide +kernel
theorem dX11_squeezeTape_191 : decode cX11_squeezeTape 191 = .ok (.istore 6, 2) := by decide +kernel
theorem dX11_squeezeTape_193 : decode cX11_squeezeTape 193 = .ok (.aload_n 0, 1) := by decide +kernel
theorem dX11_squeezeTape_194 : decode cX11_squeezeTape 194 = .ok (.invokevirtual 141, 3) := by decide +kernel
theorem dX11_squeezeTape_197 : decode cX11_squeezeTape 197 = .ok (.aload_n 0, 1) := by decide +kernel
theorem dX11_squeezeTape_198 : decode cX11_squeezeTape 198 = .ok (.getfield 110, 3) := by decide +kernel
theorem dX11_squeezeTape_201 : decode cX11_squeezeTape 201 = .ok (.ifCond .ne 10, 3) := by decide +kernel
theorem dX11_squeezeTape_204 : decode cX11_squeezeTape 204 = .ok (.aload_n 0, 1) := by decide +kernel
theorem dX11_squeezeTape_205 : decode cX11_squeezeTape 205 = .ok (.getfield 134, 3) := by decide +kernel
theorem dX11_squeezeTape_208 : decode cX11_squeezeTape 208 = .ok (.ifCond .eq 7, 3) := by decide +kernel
theorem dX11_squeezeTape_211 : decode cX11_squeezeTape 211 = .ok (.iconst 1, 1) := by decide +kernel
theorem dX11_squeezeTape_212 : decode cX11_squeezeTape 212 = .ok (.goto 4, 3) := by decide +kernel
theorem dX11_squeezeTape_215 : decode cX11_squeezeTape 215 = .ok (.iconst 0, 1) := by decide +kernel
theorem dX11_squeezeTape_216 : decode cX11_squeezeTape 216 = .ok (.istore 7, 2) := by decide +kernel
theorem dX11_squeezeTape_218 : decode cX11_squeezeTape 218 = .ok (.aload_n 0, 1) := by decide +kernel
theorem dX11_squeezeTape_219 : decode cX11_squeezeTape 219 = .ok (.bipush 96, 2) := by decide +kernel
theorem dX11_squeezeTape_221 : decode cX11_squeezeTape 221 = .ok (.iload_n 3, 1) := by decide +kernel
theorem dX11_squeezeTape_222 : decode cX11_squeezeTape 222 = .ok (.iconst 3, 1) := by decide +kernel
theorem dX11_squeezeTape_223 : decode cX11_squeezeTape 223 = .ok (.ishl, 1) := by decide +kernel
theorem dX11_squeezeTape_224 : decode cX11_squeezeTape 224 = .ok (.ior, 1) := by decide +kernel
theorem dX11_squeezeTape_225 : decode cX11_squeezeTape 225 = .ok (.iload 5, 2) := by decide +kernel
theorem dX11_squeezeTape_227 : decode cX11_squeezeTape 227 = .ok (.ifCond .eq 7, 3) := by decide +kernel
theorem dX11_squeezeTape_230 : decode cX11_squeezeTape 230 = .ok (.iconst 4, 1) := by decide +kernel
theorem dX11_squeezeTape_231 : decode cX11_squeezeTape 231 = .ok (.goto 4, 3) := by decide +kernel
theorem dX11_squeezeTape_234 : decode cX11_squeezeTape 234 = .ok (.iconst 0, 1) := by decide +kernel
theorem dX11_squeezeTape_235 : decode cX11_squeezeTape 235 = .ok (.ior, 1) := by decide +kernel
theorem dX11_squeezeTape_236 : decode cX11_squeezeTape 236 = .ok (.iload 6, 2) := by decide +kernel
theorem dX11_squeezeTape_238 : decode cX11_squeezeTape 238 = .ok (.ior, 1) := by decide +kernel
theorem dX11_squeezeTape_239 : decode cX11_squeezeTape 239 = .ok (.invokevirtual 101, 3) := by decide +kernel
theorem dX11_squeezeTape_242 : decode cX11_squeezeTape 242 = .ok (.aload_n 0, 1) := by decide +kernel
theorem dX11_squeezeTape_243 : decode cX11_squeezeTape 243 = .ok (.iload 7, 2) := by decide +kernel
theorem dX11_squeezeTape_245 : decode cX11_squeezeTape 245 = .ok (.bipush 7, 2) := by decide +kernel
theorem dX11_squeezeTape_247 : decode cX11_squeezeTape 247 = .ok (.ishl, 1) := by decide +kernel
theorem dX11_squeezeTape_248 : decode cX11_squeezeTape 248 = .ok (.aload_n 0, 1) := by decide +kernel
theorem dX11_squeezeTape_249 : decode cX11_squeezeTape 249 = .ok (.getfield 104, 3) := by decide +kernel
theorem dX11_squeezeTape_252 : decode cX11_squeezeTape 252 = .ok (.bipush 6, 2) := by decide +kernel
theorem dX11_squeezeTape_254 : decode cX11_squeezeTape 254 = .ok (.ishl, 1) := by decide +kernel
theorem dX11_squeezeTape_255 : decode cX11_squeezeTape 255 = .ok (.ior, 1) := by decide +kernel
theorem dX11_squeezeTape_256 : decode cX11_squeezeTape 256 = .ok (.aload_n 0, 1) := by decide +kernel
theorem dX11_squeezeTape_257 : decode cX11_squeezeTape 257 = .ok (.getfield 107, 3) := by decide +kernel
theorem dX11_squeezeTape_260 : decode cX11_squeezeTape 260 = .ok (.iconst 4, 1) := by decide +kernel
theorem dX11_squeezeTape_261 : decode cX11_squeezeTape 261 = .ok (.ishl, 1) := by decide +kernel
theorem dX11_squeezeTape_262 : decode cX11_squeezeTape 262 = .ok (.ior, 1) := by decide +kernel
theorem dX11_squeezeTape_263 : decode cX11_squeezeTape 263 = .ok (.aload_n 0, 1) := by decide +kernel
theorem dX11_squeezeTape_264 : decode cX11_squeezeTape 264 = .ok (.getfield 125, 3) := by decide +kernel
theorem dX11_squeezeTape_267 : decode cX11_squeezeTape 267 = .ok (.iconst 3, 1) := by decide +kernel
theorem dX11_squeezeTape_268 : decode cX11_squeezeTape 268 = .ok (.ishl, 1) := by decide +kernel
theorem dX11_squeezeTape_269 : decode cX11_squeezeTape 269 = .ok (.ior, 1) := by decide +kernel
theorem dX11_squeezeTape_270 : decode cX11_squeezeTape 270 = .ok (.aload_n 0, 1) := by decide +kernel
theorem dX11_squeezeTape_271 : decode cX11_squeezeTape 271 = .ok (.getfield 128, 3) := by decide +kernel
theorem dX11_squeezeTape_274 : decode cX11_squeezeTape 274 = .ok (.iconst 2, 1) := by decide +kernel
theorem dX11_squeezeTape_275 : decode cX11_squeezeTape 275 = .ok (.ishl, 1) := by decide +kernel
theorem dX11_squeezeTape_276 : decode cX11_squeezeTape 276 = .ok (.ior, 1) := by decide +kernel
theorem dX11_squeezeTape_277 : decode cX11_squeezeTape 277 = .ok (.aload_n 0, 1) := by decide +kernel
theorem dX11_squeezeTape_278 : decode cX11_squeezeTape 278 = .ok (.getfield 131, 3) := by decide +kernel
theorem dX11_squeezeTape_281 : decode cX11_squeezeTape 281 = .ok (.ior, 1) := by decide +kernel
theorem dX11_squeezeTape_282 : decode cX11_squeezeTape 282 = .ok (.invokevirtual 101, 3) := by decide +kernel
theorem dX11_squeezeTape_285 : decode cX11_squeezeTape 285 = .ok (.iload 7, 2) := by decide +kernel
theorem dX11_squeezeTape_287 : decode cX11_squeezeTape 287 = .ok (.iconst 1, 1) := by decide +kernel
theorem dX11_squeezeTape_288 : decode cX11_squeezeTape 288 = .ok (.if_icmp .ne 19, 3) := by decide +kernel
theorem dX11_squeezeTape_291 : decode cX11_squeezeTape 291 = .ok (.aload_n 0, 1) := by decide +kernel
theorem dX11_squeezeTape_292 : decode cX11_squeezeTape 292 = .ok (.bipush 16, 2) := by decide +kernel
theorem dX11_squeezeTape_294 : decode cX11_squeezeTape 294 = .ok (.aload_n 0, 1) := by decide +kernel
theorem dX11_squeezeTape_295 : decode cX11_squeezeTape 295 = .ok (.getfield 110, 3) := by decide +kernel
theorem dX11_squeezeTape_298 : decode cX11_squeezeTape 298 = .ok (.imul, 1) := by decide +kernel
theorem dX11_squeezeTape_299 : decode cX11_squeezeTape 299 = .ok (.aload_n 0, 1) := by decide +kernel
theorem dX11_squeezeTape_300 : decode cX11_squeezeTape 300 = .ok (.getfield 134, 3) := by decide +kernel
theorem dX11_squeezeTape_303 : decode cX11_squeezeTape 303 = .ok (.iadd, 1) := by decide +kernel
theorem dX11_squeezeTape_304 : decode cX11_squeezeTape 304 = .ok (.invokevirtual 101, 3) := by decide +kernel
theorem dX11_squeezeTape_307 : decode cX11_squeezeTape 307 = .ok (.bipush 64, 2) := by decide +kernel
theorem dX11_squeezeTape_309 : decode cX11_squeezeTape 309 = .ok (.iload_n 1, 1) := by decide +kernel
theorem dX11_squeezeTape_310 : decode cX11_squeezeTape 310 = .ok (.iconst 3, 1) := by decide +kernel
theorem dX11_squeezeTape_311 : decode cX11_squeezeTape 311 = .ok (.iand, 1) := by decide +kernel
theorem dX11_squeezeTape_312 : decode cX11_squeezeTape 312 = .ok (.imul, 1) := by decide +kernel
theorem dX11_squeezeTape_313 : decode cX11_squeezeTape 313 = .ok (.iload_n 3, 1) := by decide +kernel
theorem dX11_squeezeTape_314 : decode cX11_squeezeTape 314 = .ok (.iconst 1, 1) := by decide +kernel
theorem dX11_squeezeTape_315 : decode cX11_squeezeTape 315 = .ok (.if_icmp .ne 10, 3) := by decide +kernel
theorem dX11_squeezeTape_318 : decode cX11_squeezeTape 318 = .ok (.iload_n 2, 1) := by decide +kernel
theorem dX11_squeezeTape_319 : decode cX11_squeezeTape 319 = .ok (.bipush 16, 2) := by decide +kernel
theorem dX11_squeezeTape_321 : decode cX11_squeezeTape 321 = .ok (.ishr, 1) := by decide +kernel
theorem dX11_squeezeTape_322 : decode cX11_squeezeTape 322 = .ok (.goto 6, 3) := by decide +kernel
theorem dX11_squeezeTape_325 : decode cX11_squeezeTape 325 = .ok (.iload_n 1, 1) := by decide +kernel
theorem dX11_squeezeTape_326 : decode cX11_squeezeTape 326 = .ok (.iconst 2, 1) := by decide +kernel
theorem dX11_squeezeTape_327 : decode cX11_squeezeTape 327 = .ok (.ishr, 1) := by decide +kernel
theorem dX11_squeezeTape_328 : decode cX11_squeezeTape 328 = .ok (.iadd, 1) := by decide +kernel
theorem dX11_squeezeTape_329 : decode cX11_squeezeTape 329 = .ok (.istore 8, 2) := by decide +kernel
theorem dX11_squeezeTape_331 : decode cX11_squeezeTape 331 = .ok (.iload_n 3, 1) := by decide +kernel
theorem dX11_squeezeTape_332 : decode cX11_squeezeTape 332 = .ok (.iconst 3, 1) := by decide +kernel
theorem dX11_squeezeTape_333 : decode cX11_squeezeTape 333 = .ok (.if_icmp .ge 9, 3) := by decide +kernel
theorem dX11_squeezeTape_336 : decode cX11_squeezeTape 336 = .ok (.aload_n 0, 1) := by decide +kernel
theorem dX11_squeezeTape_337 : decode cX11_squeezeTape 337 = .ok (.iload 8, 2) := by decide +kernel
theorem dX11_squeezeTape_339 : decode cX11_squeezeTape 339 = .ok (.invokevirtual 101, 3) := by decide +kernel
theorem dX11_squeezeTape_342 : decode cX11_squeezeTape 342 = .ok (.iload_n 3, 1) := by decide +kernel
theorem dX11_squeezeTape_343 : decode cX11_squeezeTape 343 = .ok (.ifCond .ne 11, 3) := by decide +kernel
theorem dX11_squeezeTape_346 : decode cX11_squeezeTape 346 = .ok (.aload_n 0, 1) := by decide +kernel
theorem dX11_squeezeTape_347 : decode cX11_squeezeTape 347 = .ok (.iload_n 2, 1) := by decide +kernel
theorem dX11_squeezeTape_348 : decode cX11_squeezeTape 348 = .ok (.bipush 16, 2) := by decide +kernel
theorem dX11_squeezeTape_350 : decode cX11_squeezeTape 350 = .ok (.ishr, 1) := by decide +kernel
theorem dX11_squeezeTape_351 : decode cX11_squeezeTape 351 = .ok (.invokevirtual 101, 3) := by decide +kernel
theorem dX11_squeezeTape_354 : decode cX11_squeezeTape 354 = .ok (.iload_n 3, 1) := by decide +kernel
theorem dX11_squeezeTape_355 : decode cX11_squeezeTape 355 = .ok (.iconst 2, 1) := by decide +kernel
theorem dX11_squeezeTape_356 : decode cX11_squeezeTape 356 = .ok (.if_icmp .ge 16, 3) := by decide +kernel
theorem dX11_squeezeTape_359 : decode cX11_squeezeTape 359 = .ok (.aload_n 0, 1) := by decide +kernel
theorem dX11_squeezeTape_360 : decode cX11_squeezeTape 360 = .ok (.iload_n 2, 1) := by decide +kernel
theorem dX11_squeezeTape_361 : decode cX11_squeezeTape 361 = .ok (.bipush 8, 2) := by decide +kernel
theorem dX11_squeezeTape_363 : decode cX11_squeezeTape 363 = .ok (.ishr, 1) := by decide +kernel
theorem dX11_squeezeTape_364 : decode cX11_squeezeTape 364 = .ok (.invokevirtual 101, 3) := by decide +kernel
theorem dX11_squeezeTape_367 : decode cX11_squeezeTape 367 = .ok (.aload_n 0, 1) := by decide +kernel
theorem dX11_squeezeTape_368 : decode cX11_squeezeTape 368 = .ok (.iload_n 2, 1) := by decide +kernel
theorem dX11_squeezeTape_369 : decode cX11_squeezeTape 369 = .ok (.invokevirtual 101, 3) := by decide +kernel
theorem dX11_squeezeTape_372 : decode cX11_squeezeTape 372 = .ok (.iload 5, 2) := by decide +kernel
theorem dX11_squeezeTape_374 : decode cX11_squeezeTape 374 = .ok (.ifCond .ne 14, 3) := by decide +kernel
theorem dX11_squeezeTape_377 : decode cX11_squeezeTape 377 = .ok (.aload_n 0, 1) := by decide +kernel
theorem dX11_squeezeTape_378 : decode cX11_squeezeTape 378 = .ok (.aload_n 0, 1) := by decide +kernel
theorem dX11_squeezeTape_379 : decode cX11_squeezeTape 379 = .ok (.getfield 20, 3) := by decide +kernel
theorem dX11_squeezeTape_382 : decode cX11_squeezeTape 382 = .ok (.bipush 6, 2) := by decide +kernel
theorem dX11_squeezeTape_384 : decode cX11_squeezeTape 384 = .ok (.iaload, 1) := by decide +kernel
theorem dX11_squeezeTape_385 : decode cX11_squeezeTape 385 = .ok (.invokevirtual 101, 3) := by decide +kernel
theorem dX11_squeezeTape_388 : decode cX11_squeezeTape 388 = .ok (.iload 6, 2) := by decide +kernel
theorem dX11_squeezeTape_390 : decode cX11_squeezeTape 390 = .ok (.ifCond .ne 14, 3) := by decide +kernel
theorem dX11_squeezeTape_393 : decode cX11_squeezeTape 393 = .ok (.aload_n 0, 1) := by decide +kernel
theorem dX11_squeezeTape_394 : decode cX11_squeezeTape 394 = .ok (.aload_n 0, 1) := by decide +kernel
theorem dX11_squeezeTape_395 : decode cX11_squeezeTape 395 = .ok (.getfield 20, 3) := by decide +kernel
theorem dX11_squeezeTape_398 : decode cX11_squeezeTape 398 = .ok (.bipush 7, 2) := by decide +kernel
theorem dX11_squeezeTape_400 : decode cX11_squeezeTape 400 = .ok (.iaload, 1) := by decide +kernel
theorem dX11_squeezeTape_401 : decode cX11_squeezeTape 401 = .ok (.invokevirtual 101, 3) := by decide +kernel
theorem dX11_squeezeTape_404 : decode cX11_squeezeTape 404 = .ok (.aload_n 0, 1) := by decide +kernel
theorem dX11_squeezeTape_405 : decode cX11_squeezeTape 405 = .ok (.getfield 107, 3) := by decide +kernel
theorem dX11_squeezeTape_408 : decode cX11_squeezeTape 408 = .ok (.ifCond .le 16, 3) := by decide +kernel
theorem dX11_squeezeTape_411 : decode cX11_squeezeTape 411 = .ok (.aload_n 0, 1) := by decide +kernel
theorem dX11_squeezeTape_412 : decode cX11_squeezeTape 412 = .ok (.bipush 8, 2) := by decide +kernel
theorem dX11_squeezeTape_414 : decode cX11_squeezeTape 414 = .ok (.aload_n 0, 1) := by decide +kernel
theorem dX11_squeezeTape_415 : decode cX11_squeezeTape 415 = .ok (.getfield 107, 3) := by decide +kernel
theorem dX11_squeezeTape_418 : decode cX11_squeezeTape 418 = .ok (.invokevirtual 144, 3) := by decide +kernel
theorem dX11_squeezeTape_421 : decode cX11_squeezeTape 421 = .ok (.goto 16, 3) := by decide +kernel
theorem dX11_squeezeTape_424 : decode cX11_squeezeTape 424 = .ok (.aload_n 0, 1) := by decide +kernel
theorem dX11_squeezeTape_425 : decode cX11_squeezeTape 425 = .ok (.getfield 104, 3) := by decide +kernel
theorem dX11_squeezeTape_428 : decode cX11_squeezeTape 428 = .ok (.ifCond .ne 9, 3) := by decide +kernel
theorem dX11_squeezeTape_431 : decode cX11_squeezeTape 431 = .ok (.aload_n 0, 1) := by decide +kernel
theorem dX11_squeezeTape_432 : decode cX11_squeezeTape 432 = .ok (.bipush 8, 2) := by decide +kernel
theorem dX11_squeezeTape_434 : decode cX11_squeezeTape 434 = .ok (.invokevirtual 148, 3) := by decide +kernel
theorem dX11_squeezeTape_437 : decode cX11_squeezeTape 437 = .ok (.aload_n 0, 1) := by decide +kernel
theorem dX11_squeezeTape_438 : decode cX11_squeezeTape 438 = .ok (.getfield 125, 3) := by decide +kernel
theorem dX11_squeezeTape_441 : decode cX11_squeezeTape 441 = .ok (.ifCond .ne 23, 3) := by decide +kernel
theorem dX11_squeezeTape_444 : decode cX11_squeezeTape 444 = .ok (.aload_n 0, 1) := by decide +kernel
theorem dX11_squeezeTape_445 : decode cX11_squeezeTape 445 = .ok (.getfield 131, 3) := by decide +kernel
theorem dX11_squeezeTape_448 : decode cX11_squeezeTape 448 = .ok (.ifCond .le 16, 3) := by decide +kernel
theorem dX11_squeezeTape_451 : decode cX11_squeezeTape 451 = .ok (.aload_n 0, 1) := by decide +kernel
theorem dX11_squeezeTape_452 : decode cX11_squeezeTape 452 = .ok (.bipush 24, 2) := by decide +kernel
theorem dX11_squeezeTape_454 : decode cX11_squeezeTape 454 = .ok (.aload_n 0, 1) := by decide +kernel
theorem dX11_squeezeTape_455 : decode cX11_squeezeTape 455 = .ok (.getfield 131, 3) := by decide +kernel
theorem dX11_squeezeTape_458 : decode cX11_squeezeTape 458 = .ok (.invokevirtual 144, 3) := by decide +kernel
theorem dX11_squeezeTape_461 : decode cX11_squeezeTape 461 = .ok (.goto 93, 3) := by decide +kernel
theorem dX11_squeezeTape_464 : decode cX11_squeezeTape 464 = .ok (.aload_n 0, 1) := by decide +kernel
theorem dX11_squeezeTape_465 : decode cX11_squeezeTape 465 = .ok (.getfield 131, 3) := by decide +kernel
theorem dX11_squeezeTape_468 : decode cX11_squeezeTape 468 = .ok (.ifCond .ne 12, 3) := by decide +kernel
theorem dX11_squeezeTape_471 : decode cX11_squeezeTape 471 = .ok (.aload_n 0, 1) := by decide +kernel
theorem dX11_squeezeTape_472 : decode cX11_squeezeTape 472 = .ok (.bipush 24, 2) := by decide +kernel
theorem dX11_squeezeTape_474 : decode cX11_squeezeTape 474 = .ok (.invokevirtual 148, 3) := by decide +kernel
theorem dX11_squeezeTape_477 : decode cX11_squeezeTape 477 = .ok (.goto 77, 3) := by decide +kernel
theorem dX11_squeezeTape_480 : decode cX11_squeezeTape 480 = .ok (.aload_n 0, 1) := by decide +kernel
theorem dX11_squeezeTape_481 : decode cX11_squeezeTape 481 = .ok (.getfield 131, 3) := by decide +kernel
theorem dX11_squeezeTape_484 : decode cX11_squeezeTape 484 = .ok (.iconst 3, 1) := by decide +kernel
theorem dX11_squeezeTape_485 : decode cX11_squeezeTape 485 = .ok (.if_icmp .ne 17, 3) := by decide +kernel
theorem dX11_squeezeTape_488 : decode cX11_squeezeTape 488 = .ok (.aload_n 0, 1) := by decide +kernel
theorem dX11_squeezeTape_489 : decode cX11_squeezeTape 489 = .ok (.aload_n 0, 1) := by decide +kernel
theorem dX11_squeezeTape_490 : decode cX11_squeezeTape 490 = .ok (.getfield 20, 3) := by decide +kernel
theorem dX11_squeezeTape_493 : decode cX11_squeezeTape 493 = .ok (.bipush 39, 2) := by decide +kernel
theorem dX11_squeezeTape_495 : decode cX11_squeezeTape 495 = .ok (.iaload, 1) := by decide +kernel
theorem dX11_squeezeTape_496 : decode cX11_squeezeTape 496 = .ok (.invokevirtual 101, 3) := by decide +kernel
theorem dX11_squeezeTape_499 : decode cX11_squeezeTape 499 = .ok (.goto 55, 3) := by decide +kernel
theorem dX11_squeezeTape_502 : decode cX11_squeezeTape 502 = .ok (.aload_n 0, 1) := by decide +kernel
theorem dX11_squeezeTape_503 : decode cX11_squeezeTape 503 = .ok (.aload_n 0, 1) := by decide +kernel
theorem dX11_squeezeTape_504 : decode cX11_squeezeTape 504 = .ok (.getfield 20, 3) := by decide +kernel
theorem dX11_squeezeTape_507 : decode cX11_squeezeTape 507 = .ok (.bipush 25, 2) := by decide +kernel
theorem dX11_squeezeTape_509 : decode cX11_squeezeTape 509 = .ok (.iaload, 1) := by decide +kernel
theorem dX11_squeezeTape_510 : decode cX11_squeezeTape 510 = .ok (.invokevirtual 101, 3) := by decide +kernel
theorem dX11_squeezeTape_513 : decode cX11_squeezeTape 513 = .ok (.aload_n 0, 1) := by decide +kernel
theorem dX11_squeezeTape_514 : decode cX11_squeezeTape 514 = .ok (.getfield 131, 3) := by decide +kernel
theorem dX11_squeezeTape_517 : decode cX11_squeezeTape 517 = .ok (.iconst 1, 1) := by decide +kernel
theorem dX11_squeezeTape_518 : decode cX11_squeezeTape 518 = .ok (.if_icmp .ne 8, 3) := by decide +kernel
theorem dX11_squeezeTape_521 : decode cX11_squeezeTape 521 = .ok (.bipush 35, 2) := by decide +kernel
theorem dX11_squeezeTape_523 : decode cX11_squeezeTape 523 = .ok (.goto 5, 3) := by decide +kernel
theorem dX11_squeezeTape_526 : decode cX11_squeezeTape 526 = .ok (.bipush 37, 2) := by decide +kernel
theorem dX11_squeezeTape_528 : decode cX11_squeezeTape 528 = .ok (.istore 9, 2) := by decide +kernel
theorem dX11_squeezeTape_530 : decode cX11_squeezeTape 530 = .ok (.iload 9, 2) := by decide +kernel
theorem dX11_squeezeTape_532 : decode cX11_squeezeTape 532 = .ok (.bipush 40, 2) := by decide +kernel
theorem dX11_squeezeTape_534 : decode cX11_squeezeTape 534 = .ok (.if_icmp .ge 20, 3) := by decide +kernel
theorem dX11_squeezeTape_537 : decode cX11_squeezeTape 537 = .ok (.aload_n 0, 1) := by decide +kernel
theorem dX11_squeezeTape_538 : decode cX11_squeezeTape 538 = .ok (.aload_n 0, 1) := by decide +kernel
theorem dX11_squeezeTape_539 : decode cX11_squeezeTape 539 = .ok (.getfield 20, 3) := by decide +kernel
theorem dX11_squeezeTape_542 : decode cX11_squeezeTape 542 = .ok (.iload 9, 2) := by decide +kernel
theorem dX11_squeezeTape_544 : decode cX11_squeezeTape 544 = .ok (.iaload, 1) := by decide +kernel
theorem dX11_squeezeTape_545 : decode cX11_squeezeTape 545 = .ok (.invokevirtual 101, 3) := by decide +kernel
theorem dX11_squeezeTape_548 : decode cX11_squeezeTape 548 = .ok (.iinc 9 1, 3) := by decide +kernel
theorem dX11_squeezeTape_551 : decode cX11_squeezeTape 551 = .ok (.goto (-21), 3) := by decide +kernel
theorem dX11_squeezeTape_554 : decode cX11_squeezeTape 554 = .ok (.iload 5, 2) := by decide +kernel
theorem dX11_squeezeTape_556 : decode cX11_squeezeTape 556 = .ok (.ifCond .eq 7, 3) := by decide +kernel
theorem dX11_squeezeTape_559 : decode cX11_squeezeTape 559 = .ok (.aload_n 0, 1) := by decide +kernel
theorem dX11_squeezeTape_560 : decode cX11_squeezeTape 560 = .ok (.invokevirtual 151, 3) := by decide +kernel
theorem dX11_squeezeTape_563 : decode cX11_squeezeTape 563 = .ok (.aload_n 0, 1) := by decide +kernel
theorem dX11_squeezeTape_564 : decode cX11_squeezeTape 564 = .ok (.aload_n 0, 1) := by decide +kernel
theorem dX11_squeezeTape_565 : decode cX11_squeezeTape 565 = .ok (.getfield 94, 3) := by decide +kernel
theorem dX11_squeezeTape_568 : decode cX11_squeezeTape 568 = .ok (.putfield 154, 3) := by decide +kernel
theorem dX11_squeezeTape_571 : decode cX11_squeezeTape 571 = .ok (.aload_n 0, 1) := by decide +kernel
theorem dX11_squeezeTape_572 : decode cX11_squeezeTape 572 = .ok (.iload 5, 2) := by decide +kernel
theorem dX11_squeezeTape_574 : decode cX11_squeezeTape 574 = .ok (.ifCond .eq 8, 3) := by decide +kernel
theorem dX11_squeezeTape_577 : decode cX11_squeezeTape 577 = .ok (.bipush 48, 2) := by decide +kernel
theorem dX11_squeezeTape_579 : decode cX11_squeezeTape 579 = .ok (.goto 5, 3) := by decide +kernel
theorem dX11_squeezeTape_582 : decode cX11_squeezeTape 582 = .ok (.bipush 40, 2) := by decide +kernel
theorem dX11_squeezeTape_584 : decode cX11_squeezeTape 584 = .ok (.putfield 157, 3) := by decide +kernel
theorem dX11_squeezeTape_587 : decode cX11_squeezeTape 587 = .ok (.aload_n 0, 1) := by decide +kernel
theorem dX11_squeezeTape_588 : decode cX11_squeezeTape 588 = .ok (.getfield 157, 3) := by decide +kernel
theorem dX11_squeezeTape_591 : decode cX11_squeezeTape 591 = .ok (.istore 9, 2) := by decide +kernel
theorem dX11_squeezeTape_593 : decode cX11_squeezeTape 593 = .ok (.iload 9, 2) := by decide +kernel
theorem dX11_squeezeTape_595 : decode cX11_squeezeTape 595 = .ok (.aload_n 0, 1) := by decide +kernel
theorem dX11_squeezeTape_596 : decode cX11_squeezeTape 596 = .ok (.getfield 78, 3) := by decide +kernel
theorem dX11_squeezeTape_599 : decode cX11_squeezeTape 599 = .ok (.if_icmp .ge 20, 3) := by decide +kernel
theorem dX11_squeezeTape_602 : decode cX11_squeezeTape 602 = .ok (.aload_n 0, 1) := by decide +kernel
theorem dX11_squeezeTape_603 : decode cX11_squeezeTape 603 = .ok (.aload_n 0, 1) := by decide +kernel
theorem dX11_squeezeTape_604 : decode cX11_squeezeTape 604 = .ok (.getfield 20, 3) := by decide +kernel
theorem dX11_squeezeTape_607 : decode cX11_squeezeTape 607 = .ok (.iload 9, 2) := by decide +kernel
theorem dX11_squeezeTape_609 : decode cX11_squeezeTape 609 = .ok (.iaload, 1) := by decide +kernel
theorem dX11_squeezeTape_610 : decode cX11_squeezeTape 610 = .ok (.invokevirtual 101, 3) := by decide +kernel
theorem dX11_squeezeTape_613 : decode cX11_squeezeTape 613 = .ok (.iinc 9 1, 3) := by decide +kernel
theorem dX11_squeezeTape_616 : decode cX11_squeezeTape 616 = .ok (.goto (-23), 3) := by decide +kernel
theorem dX11_squeezeTape_619 : decode cX11_squeezeTape 619 = .ok (.return_, 1) := by decide +kernel
theorem dX11_addPorts_0 : decode cX11_addPorts 0 = .ok (.aload_n 0, 1) := by decide +kernel
theorem dX11_addPorts_1 : decode cX11_addPorts 1 = .ok (.getfield 20, 3) := by decide +kernel
theorem dX11_addPorts_4 : decode cX11_addPorts 4 = .ok (.bipush 40, 2) := by decide +kernel
theorem dX11_addPorts_6 : decode cX11_addPorts 6 = .ok (.iaload, 1) := by decide +kernel
theorem dX11_addPorts_7 : decode cX11_addPorts 7 = .ok (.sipush 240, 3) := by decide +kernel
theorem dX11_addPorts_10 : decode cX11_addPorts 10 = .ok (.if_icmp .ne 7, 3) := by decide +kernel
theorem dX11_addPorts_13 : decode cX11_addPorts 13 = .ok (.iconst 1, 1) := by decide +kernel
theorem dX11_addPorts_14 : decode cX11_addPorts 14 = .ok (.goto 4, 3) := by decide +kernel
theorem dX11_addPorts_17 : decode cX11_addPorts 17 = .ok (.iconst 0, 1) := by decide +kernel
theorem dX11_addPorts_18 : decode cX11_addPorts 18 = .ok (.istore_n 1, 1) := by decide +kernel
theorem dX11_addPorts_19 : decode cX11_addPorts 19 = .ok (.aload_n 0, 1) := by decide +kernel
theorem dX11_addPorts_20 : decode cX11_addPorts 20 = .ok (.getfield 20, 3) := by decide +kernel
theorem dX11_addPorts_23 : decode cX11_addPorts 23 = .ok (.bipush 42, 2) := by decide +kernel
theorem dX11_addPorts_25 : decode cX11_addPorts 25 = .ok (.iaload, 1) := by decide +kernel
theorem dX11_addPorts_26 : decode cX11_addPorts 26 = .ok (.sipush 240, 3) := by decide +kernel
theorem dX11_addPorts_29 : decode cX11_addPorts 29 = .ok (.if_icmp .ne 7, 3) := by decide +kernel
theorem dX11_addPorts_32 : decode cX11_addPorts 32 = .ok (.iconst 1, 1) := by decide +kernel
theorem dX11_addPorts_33 : decode cX11_addPorts 33 = .ok (.goto 4, 3) := by decide +kernel
theorem dX11_addPorts_36 : decode cX11_addPorts 36 = .ok (.iconst 0, 1) := by decide +kernel
theorem dX11_addPorts_37 : decode cX11_addPorts 37 = .ok (.istore_n 2, 1) := by decide +kernel
theorem dX11_addPorts_38 : decode cX11_addPorts 38 = .ok (.iload_n 1, 1) := by decide +kernel
theorem dX11_addPorts_39 : decode cX11_addPorts 39 = .ok (.ifCond .eq 72, 3) := by decide +kernel
theorem dX11_addPorts_42 : decode cX11_addPorts 42 = .ok (.iload_n 2, 1) := by decide +kernel
theorem dX11_addPorts_43 : decode cX11_addPorts 43 = .ok (.ifCond .eq 68, 3) := by decide +kernel
theorem dX11_addPorts_46 : decode cX11_addPorts 46 = .ok (.aload_n 0, 1) := by decide +kernel
theorem dX11_addPorts_47 : decode cX11_addPorts 47 = .ok (.getfield 20, 3) := by decide +kernel
theorem dX11_addPorts_50 : decode cX11_addPorts 50 = .ok (.bipush 41, 2) := by decide +kernel
theorem dX11_addPorts_52 : decode cX11_addPorts 52 = .ok (.iaload, 1) := by decide +kernel
theorem dX11_addPorts_53 : decode cX11_addPorts 53 = .ok (.iconst 4, 1) := by decide +kernel
theorem dX11_addPorts_54 : decode cX11_addPorts 54 = .ok (.ishr, 1) := by decide +kernel
theorem dX11_addPorts_55 : decode cX11_addPorts 55 = .ok (.bipush 11, 2) := by decide +kernel
theorem dX11_addPorts_57 : decode cX11_addPorts 57 = .ok (.if_icmp .ne 54, 3) := by decide +kernel
theorem dX11_addPorts_60 : decode cX11_addPorts 60 = .ok (.aload_n 0, 1) := by decide +kernel
theorem dX11_addPorts_61 : decode cX11_addPorts 61 = .ok (.getfield 20, 3) := by decide +kernel
theorem dX11_addPorts_64 : decode cX11_addPorts 64 = .ok (.bipush 43, 2) := by decide +kernel
theorem dX11_addPorts_66 : decode cX11_addPorts 66 = .ok (.iaload, 1) := by decide +kernel
theorem dX11_addPorts_67 : decode cX11_addPorts 67 = .ok (.iconst 4, 1) := by decide +kernel
theorem dX11_addPorts_68 : decode cX11_addPorts 68 = .ok (.ishr, 1) := by decide +kernel
theorem dX11_addPorts_69 : decode cX11_addPorts 69 = .ok (.bipush 11, 2) := by decide +kernel
theorem dX11_addPorts_71 : decode cX11_addPorts 71 = .ok (.if_icmp .ne 40, 3) := by decide +kernel
theorem dX11_addPorts_74 : decode cX11_addPorts 74 = .ok (.aload_n 0, 1) := by decide +kernel
theorem dX11_addPorts_75 : decode cX11_addPorts 75 = .ok (.sipush 243, 3) := by decide +kernel
theorem dX11_addPorts_78 : decode cX11_addPorts 78 = .ok (.invokevirtual 101, 3) := by decide +kernel
theorem dX11_addPorts_81 : decode cX11_addPorts 81 = .ok (.aload_n 0, 1) := by decide +kernel
theorem dX11_addPorts_82 : decode cX11_addPorts 82 = .ok (.aload_n 0, 1) := by decide +kernel
theorem dX11_addPorts_83 : decode cX11_addPorts 83 = .ok (.getfield 20, 3) := by decide +kernel
theorem dX11_addPorts_86 : decode cX11_addPorts 86 = .ok (.bipush 41, 2) := by decide +kernel
theorem dX11_addPorts_88 : decode cX11_addPorts 88 = .ok (.iaload, 1) := by decide +kernel
theorem dX11_addPorts_89 : decode cX11_addPorts 89 = .ok (.bipush 15, 2) := by decide +kernel
theorem dX11_addPorts_91 : decode cX11_addPorts 91 = .ok (.iand, 1) := by decide +kernel
theorem dX11_addPorts_92 : decode cX11_addPorts 92 = .ok (.iconst 4, 1) := by decide +kernel
theorem dX11_addPorts_93 : decode cX11_addPorts 93 = .ok (.ishl, 1) := by decide +kernel
theorem dX11_addPorts_94 : decode cX11_addPorts 94 = .ok (.aload_n 0, 1) := by decide +kernel
theorem dX11_addPorts_95 : decode cX11_addPorts 95 = .ok (.getfield 20, 3) := by decide +kernel
theorem dX11_addPorts_98 : decode cX11_addPorts 98 = .ok (.bipush 43, 2) := by decide +kernel
theorem dX11_addPorts_100 : decode cX11_addPorts 100 = .ok (.iaload, 1) := by decide +kernel
theorem dX11_addPorts_101 : decode cX11_addPorts 101 = .ok (.bipush 15, 2) := by decide +kernel
theorem dX11_addPorts_103 : decode cX11_addPorts 103 = .ok (.iand, 1) := by decide +kernel
theorem dX11_addPorts_104 : decode cX11_addPorts 104 = .ok (.ior, 1) := by decide +kernel
theorem dX11_addPorts_105 : decode cX11_addPorts 105 = .ok (.invokevirtual 101, 3) := by decide +kernel
theorem dX11_addPorts_108 : decode cX11_addPorts 108 = .ok (.goto 148, 3) := by decide +kernel
theorem dX11_addPorts_111 : decode cX11_addPorts 111 = .ok (.iload_n 2, 1) := by decide +kernel
theorem dX11_addPorts_112 : decode cX11_addPorts 112 = .ok (.ifCond .eq 46, 3) := by decide +kernel
theorem dX11_addPorts_115 : decode cX11_addPorts 115 = .ok (.aload_n 0, 1) := by decide +kernel
theorem dX11_addPorts_116 : decode cX11_addPorts 116 = .ok (.sipush 241, 3) := by decide +kernel
theorem dX11_addPorts_119 : decode cX11_addPorts 119 = .ok (.invokevirtual 101, 3) := by decide +kernel
theorem dX11_addPorts_122 : decode cX11_addPorts 122 = .ok (.aload_n 0, 1) := by decide +kernel
theorem dX11_addPorts_123 : decode cX11_addPorts 123 = .ok (.aload_n 0, 1) := by decide +kernel
theorem dX11_addPorts_124 : decode cX11_addPorts 124 = .ok (.getfield 20, 3) := by decide +kernel
theorem dX11_addPorts_127 : decode cX11_addPorts 127 = .ok (.bipush 40, 2) := by decide +kernel
theorem dX11_addPorts_129 : decode cX11_addPorts 129 = .ok (.iaload, 1) := by decide +kernel
theorem dX11_addPorts_130 : decode cX11_addPorts 130 = .ok (.invokevirtual 101, 3) := by decide +kernel
theorem dX11_addPorts_133 : decode cX11_addPorts 133 = .ok (.aload_n 0, 1) := by decide +kernel
theorem dX11_addPorts_134 : decode cX11_addPorts 134 = .ok (.aload_n 0, 1) := by decide +kernel
theorem dX11_addPorts_135 : decode cX11_addPorts 135 = .ok (.getfield 20, 3) := by decide +kernel
theorem dX11_addPorts_138 : decode cX11_addPorts 138 = .ok (.bipush 41, 2) := by decide +kernel
theorem dX11_addPorts_140 : decode cX11_addPorts 140 = .ok (.iaload, 1) := by decide +kernel
theorem dX11_addPorts_141 : decode cX11_addPorts 141 = .ok (.invokevirtual 101, 3) := by decide +kernel
theorem dX11_addPorts_144 : decode cX11_addPorts 144 = .ok (.aload_n 0, 1) := by decide +kernel
theorem dX11_addPorts_145 : decode cX11_addPorts 145 = .ok (.aload_n 0, 1) := by decide +kernel
theorem dX11_addPorts_146 : decode cX11_addPorts 146 = .ok (.getfield 20, 3) := by decide +kernel
theorem dX11_addPorts_149 : decode cX11_addPorts 149 = .ok (.bipush 43, 2) := by decide +kernel
theorem dX11_addPorts_151 : decode cX11_addPorts 151 = .ok (.iaload, 1) := by decide +kernel
theorem dX11_addPorts_152 : decode cX11_addPorts 152 = .ok (.invokevirtual 101, 3) := by decide +kernel
theorem dX11_addPorts_155 : decode cX11_addPorts 155 = .ok (.goto 101, 3) := by decide +kernel
theorem dX11_addPorts_158 : decode cX11_addPorts 158 = .ok (.iload_n 1, 1) := by decide +kernel
theorem dX11_addPorts_159 : decode cX11_addPorts 159 = .ok (.ifCond .eq 46, 3) := by decide +kernel
theorem dX11_addPorts_162 : decode cX11_addPorts 162 = .ok (.aload_n 0, 1) := by decide +kernel
theorem dX11_addPorts_163 : decode cX11_addPorts 163 = .ok (.sipush 242, 3) := by decide +kernel
theorem dX11_addPorts_166 : decode cX11_addPorts 166 = .ok (.invokevirtual 101, 3) := by decide +kernel
theorem dX11_addPorts_169 : decode cX11_addPorts 169 = .ok (.aload_n 0, 1) := by decide +kernel
theorem dX11_addPorts_170 : decode cX11_addPorts 170 = .ok (.aload_n 0, 1) := by decide +kernel
theorem dX11_addPorts_171 : decode cX11_addPorts 171 = .ok (.getfield 20, 3) := by decide +kernel
theorem dX11_addPorts_174 : decode cX11_addPorts 174 = .ok (.bipush 41, 2) := by decide +kernel
theorem dX11_addPorts_176 : decode cX11_addPorts 176 = .ok (.iaload, 1) := by decide +kernel
theorem dX11_addPorts_177 : decode cX11_addPorts 177 = .ok (.invokevirtual 101, 3) := by decide +kernel
theorem dX11_addPorts_180 : decode cX11_addPorts 180 = .ok (.aload_n 0, 1) := by decide +kernel
theorem dX11_addPorts_181 : decode cX11_addPorts 181 = .ok (.aload_n 0, 1) := by decide +kernel
theorem dX11_addPorts_182 : decode cX11_addPorts 182 = .ok (.getfield 20, 3) := by decide +kernel
theorem dX11_addPorts_185 : decode cX11_addPorts 185 = .ok (.bipush 42, 2) := by decide +kernel
theorem dX11_addPorts_187 : decode cX11_addPorts 187 = .ok (.iaload, 1) := by decide +kernel
theorem dX11_addPorts_188 : decode cX11_addPorts 188 = .ok (.invokevirtual 101, 3) := by decide +kernel
theorem dX11_addPorts_191 : decode cX11_addPorts 191 = .ok (.aload_n 0, 1) := by decide +kernel
theorem dX11_addPorts_192 : decode cX11_addPorts 192 = .ok (.aload_n 0, 1) := by decide +kernel
theorem dX11_addPorts_193 : decode cX11_addPorts 193 = .ok (.getfield 20, 3) := by decide +kernel
theorem dX11_addPorts_196 : decode cX11_addPorts 196 = .ok (.bipush 43, 2) := by decide +kernel
theorem dX11_addPorts_198 : decode cX11_addPorts 198 = .ok (.iaload, 1) := by decide +kernel
theorem dX11_addPorts_199 : decode cX11_addPorts 199 = .ok (.invokevirtual 101, 3) := by decide +kernel
theorem dX11_addPorts_202 : decode cX11_addPorts 202 = .ok (.goto 54, 3) := by decide +kernel
theorem dX11_addPorts_205 : decode cX11_addPorts 205 = .ok (.aload_n 0, 1) := by decide +kernel
theorem dX11_addPorts_206 : decode cX11_addPorts 206 = .ok (.sipush 240, 3) := by decide +kernel
theorem dX11_addPorts_209 : decode cX11_addPorts 209 = .ok (.invokevirtual 101, 3) := by decide +kernel
theorem dX11_addPorts_212 : decode cX11_addPorts 212 = .ok (.aload_n 0, 1) := by decide +kernel
theorem dX11_addPorts_213 : decode cX11_addPorts 213 = .ok (.aload_n 0, 1) := by decide +kernel
theorem dX11_addPorts_214 : decode cX11_addPorts 214 = .ok (.getfield 20, 3) := by decide +kernel
theorem dX11_addPorts_217 : decode cX11_addPorts 217 = .ok (.bipush 40, 2) := by decide +kernel
theorem dX11_addPorts_219 : decode cX11_addPorts 219 = .ok (.iaload, 1) := by decide +kernel
theorem dX11_addPorts_220 : decode cX11_addPorts 220 = .ok (.invokevirtual 101, 3) := by decide +kernel
theorem dX11_addPorts_223 : decode cX11_addPorts 223 = .ok (.aload_n 0, 1) := by decide +kernel
theorem dX11_addPorts_224 : decode cX11_addPorts 224 = .ok (.aload_n 0, 1) := by decide +kernel
theorem dX11_addPorts_225 : decode cX11_addPorts 225 = .ok (.getfield 20, 3) := by decide +kernel
theorem dX11_addPorts_228 : decode cX11_addPorts 228 = .ok (.bipush 41, 2) := by decide +kernel
theorem dX11_addPorts_230 : decode cX11_addPorts 230 = .ok (.iaload, 1) := by decide +kernel
theorem dX11_addPorts_231 : decode cX11_addPorts 231 = .ok (.invokevirtual 101, 3) := by decide +kernel
theorem dX11_addPorts_234 : decode cX11_addPorts 234 = .ok (.aload_n 0, 1) := by decide +kernel
theorem dX11_addPorts_235 : decode cX11_addPorts 235 = .ok (.aload_n 0, 1) := by decide +kernel
theorem dX11_addPorts_236 : decode cX11_addPorts 236 = .ok (.getfield 20, 3) := by decide +kernel
theorem dX11_addPorts_239 : decode cX11_addPorts 239 = .ok (.bipush 42, 2) := by decide +kernel
theorem dX11_addPorts_241 : decode cX11_addPorts 241 = .ok (.iaload, 1) := by decide +kernel
theorem dX11_addPorts_242 : decode cX11_addPorts 242 = .ok (.invokevirtual 101, 3) := by decide +kernel
theorem dX11_addPorts_245 : decode cX11_addPorts 245 = .ok (.aload_n 0, 1) := by decide +kernel
theorem dX11_addPorts_246 : decode cX11_addPorts 246 = .ok (.aload_n 0, 1) := by decide +kernel
theorem dX11_addPorts_247 : decode cX11_addPorts 247 = .ok (.getfield 20, 3) := by decide +kernel
theorem dX11_addPorts_250 : decode cX11_addPorts 250 = .ok (.bipush 43, 2) := by decide +kernel
theorem dX11_addPorts_252 : decode cX11_addPorts 252 = .ok (.iaload, 1) := by decide +kernel
theorem dX11_addPorts_253 : decode cX11_addPorts 253 = .ok (.invokevirtual 101, 3) := by decide +kernel
theorem dX11_addPorts_256 : decode cX11_addPorts 256 = .ok (.aload_n 0, 1) := by decide +kernel
theorem dX11_addPorts_257 : decode cX11_addPorts 257 = .ok (.aload_n 0, 1) := by decide +kernel
theorem dX11_addPorts_258 : decode cX11_addPorts 258 = .ok (.getfield 20, 3) := by decide +kernel
theorem dX11_addPorts_261 : decode cX11_addPorts 261 = .ok (.bipush 46, 2) := by decide +kernel
theorem dX11_addPorts_263 : decode cX11_addPorts 263 = .ok (.iaload, 1) := by decide +kernel
theorem dX11_addPorts_264 : decode cX11_addPorts 264 = .ok (.invokevirtual 101, 3) := by decide +kernel
theorem dX11_addPorts_267 : decode cX11_addPorts 267 = .ok (.aload_n 0, 1) := by decide +kernel
theorem dX11_addPorts_268 : decode cX11_addPorts 268 = .ok (.aload_n 0, 1) := by decide +kernel
theorem dX11_addPorts_269 : decode cX11_addPorts 269 = .ok (.getfield 20, 3) := by decide +kernel
theorem dX11_addPorts_272 : decode cX11_addPorts 272 = .ok (.bipush 47, 2) := by decide +kernel
theorem dX11_addPorts_274 : decode cX11_addPorts 274 = .ok (.iaload, 1) := by decide +kernel
theorem dX11_addPorts_275 : decode cX11_addPorts 275 = .ok (.invokevirtual 101, 3) := by decide +kernel
theorem dX11_addPorts_278 : decode cX11_addPorts 278 = .ok (.return_, 1) := by decide +kernel
theorem dX11_rowToOut_0 : decode cX11_rowToOut 0 = .ok (.iconst 0, 1) := by decide +kernel
theorem dX11_rowToOut_1 : decode cX11_rowToOut 1 = .ok (.istore_n 1, 1) := by decide +kernel
theorem dX11_rowToOut_2 : decode cX11_rowToOut 2 = .ok (.iload_n 1, 1) := by decide +kernel
theorem dX11_rowToOut_3 : decode cX11_rowToOut 3 = .ok (.aload_n 0, 1) := by decide +kernel
theorem dX11_rowToOut_4 : decode cX11_rowToOut 4 = .ok (.getfield 94, 3) := by decide +kernel
theorem dX11_rowToOut_7 : decode cX11_rowToOut 7 = .ok (.if_icmp .ge 21, 3) := by decide +kernel
theorem dX11_rowToOut_10 : decode cX11_rowToOut 10 = .ok (.aload_n 0, 1) := by decide +kernel
theorem dX11_rowToOut_11 : decode cX11_rowToOut 11 = .ok (.getfield 23, 3) := by decide +kernel
theorem dX11_rowToOut_14 : decode cX11_rowToOut 14 = .ok (.iload_n 1, 1) := by decide +kernel
theorem dX11_rowToOut_15 : decode cX11_rowToOut 15 = .ok (.aload_n 0, 1) := by decide +kernel
theorem dX11_rowToOut_16 : decode cX11_rowToOut 16 = .ok (.getfield 26, 3) := by decide +kernel
theorem dX11_rowToOut_19 : decode cX11_rowToOut 19 = .ok (.iload_n 1, 1) := by decide +kernel
theorem dX11_rowToOut_20 : decode cX11_rowToOut 20 = .ok (.iaload, 1) := by decide +kernel
theorem dX11_rowToOut_21 : decode cX11_rowToOut 21 = .ok (.iastore, 1) := by decide +kernel
theorem dX11_rowToOut_22 : decode cX11_rowToOut 22 = .ok (.iinc 1 1, 3) := by decide +kernel
theorem dX11_rowToOut_25 : decode cX11_rowToOut 25 = .ok (.goto (-23), 3) := by decide +kernel
theorem dX11_rowToOut_28 : decode cX11_rowToOut 28 = .ok (.aload_n 0, 1) := by decide +kernel
theorem dX11_rowToOut_29 : decode cX11_rowToOut 29 = .ok (.aload_n 0, 1) := by decide +kernel
theorem dX11_rowToOut_30 : decode cX11_rowToOut 30 = .ok (.getfield 94, 3) := by decide +kernel
theorem dX11_rowToOut_33 : decode cX11_rowToOut 33 = .ok (.putfield 91, 3) := by decide +kernel
theorem dX11_rowToOut_36 : decode cX11_rowToOut 36 = .ok (.return_, 1) := by decide +kernel
theorem dX11_squeeze_0 : decode cX11_squeeze 0 = .ok (.aload_n 0, 1) := by decide +kernel
theorem dX11_squeeze_1 : decode cX11_squeeze 1 = .ok (.invokevirtual 160, 3) := by decide +kernel
theorem dX11_squeeze_4 : decode cX11_squeeze 4 = .ok (.ifCond .ne 6, 3) := by decide +kernel
theorem dX11_squeeze_7 : decode cX11_squeeze 7 = .ok (.bipush (-2), 2) := by decide +kernel
theorem dX11_squeeze_9 : decode cX11_squeeze 9 = .ok (.ireturn, 1) := by decide +kernel
theorem dX11_squeeze_10 : decode cX11_squeeze 10 = .ok (.aload_n 0, 1) := by decide +kernel
theorem dX11_squeeze_11 : decode cX11_squeeze 11 = .ok (.invokevirtual 164, 3) := by decide +kernel
theorem dX11_squeeze_14 : decode cX11_squeeze 14 = .ok (.aload_n 0, 1) := by decide +kernel
theorem dX11_squeeze_15 : decode cX11_squeeze 15 = .ok (.invokevirtual 167, 3) := by decide +kernel
theorem dX11_squeeze_18 : decode cX11_squeeze 18 = .ok (.aload_n 0, 1) := by decide +kernel
theorem dX11_squeeze_19 : decode cX11_squeeze 19 = .ok (.getfield 91, 3) := by decide +kernel
theorem dX11_squeeze_22 : decode cX11_squeeze 22 = .ok (.ireturn, 1) := by decide +kernel
theorem dX11_fails_0 : decode cX11_fails 0 = .ok (.aload_n 0, 1) := by decide +kernel
theorem dX11_fails_1 : decode cX11_fails 1 = .ok (.aload_n 0, 1) := by decide +kernel
theorem dX11_fails_2 : decode cX11_fails 2 = .ok (.getfield 170, 3) := by decide +kernel
theorem dX11_fails_5 : decode cX11_fails 5 = .ok (.ifCond .ne 7, 3) := by decide +kernel
theorem dX11_fails_8 : decode cX11_fails 8 = .ok (.iload_n 1, 1) := by decide +kernel
theorem dX11_fails_9 : decode cX11_fails 9 = .ok (.goto 7, 3) := by decide +kernel
theorem dX11_fails_12 : decode cX11_fails 12 = .ok (.aload_n 0, 1) := by decide +kernel
theorem dX11_fails_13 : decode cX11_fails 13 = .ok (.getfield 170, 3) := by decide +kernel
theorem dX11_fails_16 : decode cX11_fails 16 = .ok (.putfield 170, 3) := by decide +kernel
theorem dX11_fails_19 : decode cX11_fails 19 = .ok (.aload_n 0, 1) := by decide +kernel
theorem dX11_fails_20 : decode cX11_fails 20 = .ok (.aload_n 0, 1) := by decide +kernel
theorem dX11_fails_21 : decode cX11_fails 21 = .ok (.getfield 170, 3) := by decide +kernel
theorem dX11_fails_24 : decode cX11_fails 24 = .ok (.iload_n 1, 1) := by decide +kernel
theorem dX11_fails_25 : decode cX11_fails 25 = .ok (.if_icmp .ne 7, 3) := by decide +kernel
theorem dX11_fails_28 : decode cX11_fails 28 = .ok (.iload_n 2, 1) := by decide +kernel
theorem dX11_fails_29 : decode cX11_fails 29 = .ok (.goto 7, 3) := by decide +kernel
theorem dX11_fails_32 : decode cX11_fails 32 = .ok (.aload_n 0, 1) := by decide +kernel
theorem dX11_fails_33 : decode cX11_fails 33 = .ok (.getfield 173, 3) := by decide +kernel
theorem dX11_fails_36 : decode cX11_fails 36 = .ok (.putfield 173, 3) := by decide +kernel
theorem dX11_fails_39 : decode cX11_fails 39 = .ok (.iconst 0, 1) := by decide +kernel
theorem dX11_fails_40 : decode cX11_fails 40 = .ok (.ireturn, 1) := by decide +kernel
theorem dX11_next_0 : decode cX11_next 0 = .ok (.aload_n 0, 1) := by decide +kernel
theorem dX11_next_1 : decode cX11_next 1 = .ok (.getfield 176, 3) := by decide +kernel
theorem dX11_next_4 : decode cX11_next 4 = .ok (.aload_n 0, 1) := by decide +kernel
theorem dX11_next_5 : decode cX11_next 5 = .ok (.getfield 179, 3) := by decide +kernel
theorem dX11_next_8 : decode cX11_next 8 = .ok (.if_icmp .lt 22, 3) := by decide +kernel
theorem dX11_next_11 : decode cX11_next 11 = .ok (.aload_n 0, 1) := by decide +kernel
theorem dX11_next_12 : decode cX11_next 12 = .ok (.getfield 170, 3) := by decide +kernel
theorem dX11_next_15 : decode cX11_next 15 = .ok (.ifCond .ne 13, 3) := by decide +kernel
theorem dX11_next_18 : decode cX11_next 18 = .ok (.aload_n 0, 1) := by decide +kernel
theorem dX11_next_19 : decode cX11_next 19 = .ok (.iconst 1, 1) := by decide +kernel
theorem dX11_next_20 : decode cX11_next 20 = .ok (.aload_n 0, 1) := by decide +kernel
theorem dX11_next_21 : decode cX11_next 21 = .ok (.getfield 179, 3) := by decide +kernel
theorem dX11_next_24 : decode cX11_next 24 = .ok (.invokevirtual 182, 3) := by decide +kernel
theorem dX11_next_27 : decode cX11_next 27 = .ok (.istore_n 1, 1) := by decide +kernel
theorem dX11_next_28 : decode cX11_next 28 = .ok (.iconst 0, 1) := by decide +kernel
theorem dX11_next_29 : decode cX11_next 29 = .ok (.ireturn, 1) := by decide +kernel
theorem dX11_next_30 : decode cX11_next 30 = .ok (.aload_n 0, 1) := by decide +kernel
theorem dX11_next_31 : decode cX11_next 31 = .ok (.dup, 1) := by decide +kernel
theorem dX11_next_32 : decode cX11_next 32 = .ok (.getfield 176, 3) := by decide +kernel
theorem dX11_next_35 : decode cX11_next 35 = .ok (.iconst 1, 1) := by decide +kernel
theorem dX11_next_36 : decode cX11_next 36 = .ok (.iadd, 1) := by decide +kernel
theorem dX11_next_37 : decode cX11_next 37 = .ok (.putfield 176, 3) := by decide +kernel
theorem dX11_next_40 : decode cX11_next 40 = .ok (.aload_n 0, 1) := by decide +kernel
theorem dX11_next_41 : decode cX11_next 41 = .ok (.getfield 29, 3) := by decide +kernel
theorem dX11_next_44 : decode cX11_next 44 = .ok (.aload_n 0, 1) := by decide +kernel
theorem dX11_next_45 : decode cX11_next 45 = .ok (.getfield 176, 3) := by decide +kernel
theorem dX11_next_48 : decode cX11_next 48 = .ok (.iconst 1, 1) := by decide +kernel
theorem dX11_next_49 : decode cX11_next 49 = .ok (.isub, 1) := by decide +kernel
theorem dX11_next_50 : decode cX11_next 50 = .ok (.iaload, 1) := by decide +kernel
theorem dX11_next_51 : decode cX11_next 51 = .ok (.ireturn, 1) := by decide +kernel
theorem dX11_set_0 : decode cX11_set 0 = .ok (.aload_n 0, 1) := by decide +kernel
theorem dX11_set_1 : decode cX11_set 1 = .ok (.getfield 32, 3) := by decide +kernel
theorem dX11_set_4 : decode cX11_set 4 = .ok (.iload_n 1, 1) := by decide +kernel
theorem dX11_set_5 : decode cX11_set 5 = .ok (.iload_n 2, 1) := by decide +kernel
theorem dX11_set_6 : decode cX11_set 6 = .ok (.sipush 255, 3) := by decide +kernel
theorem dX11_set_9 : decode cX11_set 9 = .ok (.iand, 1) := by decide +kernel
theorem dX11_set_10 : decode cX11_set 10 = .ok (.iastore, 1) := by decide +kernel
theorem dX11_set_11 : decode cX11_set 11 = .ok (.return_, 1) := by decide +kernel
theorem dX11_lasts_0 : decode cX11_lasts 0 = .ok (.iconst 0, 1) := by decide +kernel
theorem dX11_lasts_1 : decode cX11_lasts 1 = .ok (.istore 4, 2) := by decide +kernel
theorem dX11_lasts_3 : decode cX11_lasts 3 = .ok (.iload 4, 2) := by decide +kernel
theorem dX11_lasts_5 : decode cX11_lasts 5 = .ok (.bipush 8, 2) := by decide +kernel
theorem dX11_lasts_7 : decode cX11_lasts 7 = .ok (.if_icmp .ge 65, 3) := by decide +kernel
theorem dX11_lasts_10 : decode cX11_lasts 10 = .ok (.aload_n 0, 1) := by decide +kernel
theorem dX11_lasts_11 : decode cX11_lasts 11 = .ok (.iload_n 1, 1) := by decide +kernel
theorem dX11_lasts_12 : decode cX11_lasts 12 = .ok (.bipush 8, 2) := by decide +kernel
theorem dX11_lasts_14 : decode cX11_lasts 14 = .ok (.iadd, 1) := by decide +kernel
theorem dX11_lasts_15 : decode cX11_lasts 15 = .ok (.iload 4, 2) := by decide +kernel
theorem dX11_lasts_17 : decode cX11_lasts 17 = .ok (.iadd, 1) := by decide +kernel
theorem dX11_lasts_18 : decode cX11_lasts 18 = .ok (.iload_n 2, 1) := by decide +kernel
theorem dX11_lasts_19 : decode cX11_lasts 19 = .ok (.iconst 3, 1) := by decide +kernel
theorem dX11_lasts_20 : decode cX11_lasts 20 = .ok (.if_icmp .ne 18, 3) := by decide +kernel
theorem dX11_lasts_23 : decode cX11_lasts 23 = .ok (.aload_n 0, 1) := by decide +kernel
theorem dX11_lasts_24 : decode cX11_lasts 24 = .ok (.getfield 17, 3) := by decide +kernel
theorem dX11_lasts_27 : decode cX11_lasts 27 = .ok (.bipush 8, 2) := by decide +kernel
theorem dX11_lasts_29 : decode cX11_lasts 29 = .ok (.iload_n 3, 1) := by decide +kernel
theorem dX11_lasts_30 : decode cX11_lasts 30 = .ok (.imul, 1) := by decide +kernel
theorem dX11_lasts_31 : decode cX11_lasts 31 = .ok (.iload 4, 2) := by decide +kernel
theorem dX11_lasts_33 : decode cX11_lasts 33 = .ok (.iadd, 1) := by decide +kernel
theorem dX11_lasts_34 : decode cX11_lasts 34 = .ok (.iaload, 1) := by decide +kernel
theorem dX11_lasts_35 : decode cX11_lasts 35 = .ok (.goto 28, 3) := by decide +kernel
theorem dX11_lasts_38 : decode cX11_lasts 38 = .ok (.iload 4, 2) := by decide +kernel
theorem dX11_lasts_40 : decode cX11_lasts 40 = .ok (.iconst 3, 1) := by decide +kernel
theorem dX11_lasts_41 : decode cX11_lasts 41 = .ok (.if_icmp .ne 9, 3) := by decide +kernel
theorem dX11_lasts_44 : decode cX11_lasts 44 = .ok (.sipush 255, 3) := by decide +kernel
theorem dX11_lasts_47 : decode cX11_lasts 47 = .ok (.goto 16, 3) := by decide +kernel
theorem dX11_lasts_50 : decode cX11_lasts 50 = .ok (.iload 4, 2) := by decide +kernel
theorem dX11_lasts_52 : decode cX11_lasts 52 = .ok (.iconst 4, 1) := by decide +kernel
theorem dX11_lasts_53 : decode cX11_lasts 53 = .ok (.if_icmp .ne 9, 3) := by decide +kernel
theorem dX11_lasts_56 : decode cX11_lasts 56 = .ok (.sipush 254, 3) := by decide +kernel
theorem dX11_lasts_59 : decode cX11_lasts 59 = .ok (.goto 4, 3) := by decide +kernel
theorem dX11_lasts_62 : decode cX11_lasts 62 = .ok (.iconst 0, 1) := by decide +kernel
theorem dX11_lasts_63 : decode cX11_lasts 63 = .ok (.invokevirtual 185, 3) := by decide +kernel
theorem dX11_lasts_66 : decode cX11_lasts 66 = .ok (.iinc 4 1, 3) := by decide +kernel
theorem dX11_lasts_69 : decode cX11_lasts 69 = .ok (.goto (-66), 3) := by decide +kernel
theorem dX11_lasts_72 : decode cX11_lasts 72 = .ok (.iload_n 2, 1) := by decide +kernel
theorem dX11_lasts_73 : decode cX11_lasts 73 = .ok (.iconst 1, 1) := by decide +kernel
theorem dX11_lasts_74 : decode cX11_lasts 74 = .ok (.if_icmp .ne 8, 3) := by decide +kernel
theorem dX11_lasts_77 : decode cX11_lasts 77 = .ok (.bipush 8, 2) := by decide +kernel
theorem dX11_lasts_79 : decode cX11_lasts 79 = .ok (.goto 15, 3) := by decide +kernel
theorem dX11_lasts_82 : decode cX11_lasts 82 = .ok (.iload_n 2, 1) := by decide +kernel
theorem dX11_lasts_83 : decode cX11_lasts 83 = .ok (.iconst 2, 1) := by decide +kernel
theorem dX11_lasts_84 : decode cX11_lasts 84 = .ok (.if_icmp .ne 8, 3) := by decide +kernel
theorem dX11_lasts_87 : decode cX11_lasts 87 = .ok (.bipush 14, 2) := by decide +kernel
theorem dX11_lasts_89 : decode cX11_lasts 89 = .ok (.goto 5, 3) := by decide +kernel
theorem dX11_lasts_92 : decode cX11_lasts 92 = .ok (.bipush 16, 2) := by decide +kernel
theorem dX11_lasts_94 : decode cX11_lasts 94 = .ok (.istore 4, 2) := by decide +kernel
theorem dX11_lasts_96 : decode cX11_lasts 96 = .ok (.iload 4, 2) := by decide +kernel
theorem dX11_lasts_98 : decode cX11_lasts 98 = .ok (.bipush 16, 2) := by decide +kernel
theorem dX11_lasts_100 : decode cX11_lasts 100 = .ok (.if_icmp .ge 21, 3) := by decide +kernel
theorem dX11_lasts_103 : decode cX11_lasts 103 = .ok (.aload_n 0, 1) := by decide +kernel
theorem dX11_lasts_104 : decode cX11_lasts 104 = .ok (.iload_n 1, 1) := by decide +kernel
theorem dX11_lasts_105 : decode cX11_lasts 105 = .ok (.iload 4, 2) := by decide +kernel
theorem dX11_lasts_107 : decode cX11_lasts 107 = .ok (.iadd, 1) := by decide +kernel
theorem dX11_lasts_108 : decode cX11_lasts 108 = .ok (.aload_n 0, 1) := by decide +kernel
theorem dX11_lasts_109 : decode cX11_lasts 109 = .ok (.invokevirtual 188, 3) := by decide +kernel
theorem dX11_lasts_112 : decode cX11_lasts 112 = .ok (.invokevirtual 185, 3) := by decide +kernel
theorem dX11_lasts_115 : decode cX11_lasts 115 = .ok (.iinc 4 1, 3) := by decide +kernel
theorem dX11_lasts_118 : decode cX11_lasts 118 = .ok (.goto (-22), 3) := by decide +kernel
theorem dX11_lasts_121 : decode cX11_lasts 121 = .ok (.return_, 1) := by decide +kernel
theorem dX11_plain_0 : decode cX11_plain 0 = .ok (.aload_n 0, 1) := by decide +kernel
theorem dX11_plain_1 : decode cX11_plain 1 = .ok (.iload_n 1, 1) := by decide +kernel
theorem dX11_plain_2 : decode cX11_plain 2 = .ok (.sipush 254, 3) := by decide +kernel
theorem dX11_plain_5 : decode cX11_plain 5 = .ok (.invokevirtual 185, 3) := by decide +kernel
theorem dX11_plain_8 : decode cX11_plain 8 = .ok (.aload_n 0, 1) := by decide +kernel
theorem dX11_plain_9 : decode cX11_plain 9 = .ok (.iload_n 1, 1) := by decide +kernel
theorem dX11_plain_10 : decode cX11_plain 10 = .ok (.iconst 1, 1) := by decide +kernel
theorem dX11_plain_11 : decode cX11_plain 11 = .ok (.iadd, 1) := by decide +kernel
theorem dX11_plain_12 : decode cX11_plain 12 = .ok (.sipush 128, 3) := by decide +kernel
theorem dX11_plain_15 : decode cX11_plain 15 = .ok (.invokevirtual 185, 3) := by decide +kernel
theorem dX11_plain_18 : decode cX11_plain 18 = .ok (.return_, 1) := by decide +kernel
theorem dX11_fromContext_0 : decode cX11_fromContext 0 = .ok (.iconst 0, 1) := by decide +kernel
theorem dX11_fromContext_1 : decode cX11_fromContext 1 = .ok (.istore_n 3, 1) := by decide +kernel
theorem dX11_fromContext_2 : decode cX11_fromContext 2 = .ok (.iload_n 3, 1) := by decide +kernel
theorem dX11_fromContext_3 : decode cX11_fromContext 3 = .ok (.bipush 8, 2) := by decide +kernel
theorem dX11_fromContext_5 : decode cX11_fromContext 5 = .ok (.if_icmp .ge 27, 3) := by decide +kernel
theorem dX11_fromContext_8 : decode cX11_fromContext 8 = .ok (.aload_n 0, 1) := by decide +kernel
theorem dX11_fromContext_9 : decode cX11_fromContext 9 = .ok (.iload_n 1, 1) := by decide +kernel
theorem dX11_fromContext_10 : decode cX11_fromContext 10 = .ok (.iload_n 3, 1) := by decide +kernel
theorem dX11_fromContext_11 : decode cX11_fromContext 11 = .ok (.iadd, 1) := by decide +kernel
theorem dX11_fromContext_12 : decode cX11_fromContext 12 = .ok (.aload_n 0, 1) := by decide +kernel
theorem dX11_fromContext_13 : decode cX11_fromContext 13 = .ok (.getfield 13, 3) := by decide +kernel
theorem dX11_fromContext_16 : decode cX11_fromContext 16 = .ok (.bipush 8, 2) := by decide +kernel
theorem dX11_fromContext_18 : decode cX11_fromContext 18 = .ok (.iload_n 2, 1) := by decide +kernel
theorem dX11_fromContext_19 : decode cX11_fromContext 19 = .ok (.imul, 1) := by decide +kernel
theorem dX11_fromContext_20 : decode cX11_fromContext 20 = .ok (.iload_n 3, 1) := by decide +kernel
theorem dX11_fromContext_21 : decode cX11_fromContext 21 = .ok (.iadd, 1) := by decide +kernel
theorem dX11_fromContext_22 : decode cX11_fromContext 22 = .ok (.iaload, 1) := by decide +kernel
theorem dX11_fromContext_23 : decode cX11_fromContext 23 = .ok (.invokevirtual 185, 3) := by decide +kernel
theorem dX11_fromContext_26 : decode cX11_fromContext 26 = .ok (.iinc 3 1, 3) := by decide +kernel
theorem dX11_fromContext_29 : decode cX11_fromContext 29 = .ok (.goto (-27), 3) := by decide +kernel
theorem dX11_fromContext_32 : decode cX11_fromContext 32 = .ok (.return_, 1) := by decide +kernel
theorem dX11_unfolds_0 : decode cX11_unfolds 0 = .ok (.aload_n 0, 1) := by decide +kernel
theorem dX11_unfolds_1 : decode cX11_unfolds 1 = .ok (.iconst 0, 1) := by decide +kernel
theorem dX11_unfolds_2 : decode cX11_unfolds 2 = .ok (.putfield 176, 3) := by decide +kernel
theorem dX11_unfolds_5 : decode cX11_unfolds 5 = .ok (.aload_n 0, 1) := by decide +kernel
theorem dX11_unfolds_6 : decode cX11_unfolds 6 = .ok (.iconst 0, 1) := by decide +kernel
theorem dX11_unfolds_7 : decode cX11_unfolds 7 = .ok (.putfield 170, 3) := by decide +kernel
theorem dX11_unfolds_10 : decode cX11_unfolds 10 = .ok (.aload_n 0, 1) := by decide +kernel
theorem dX11_unfolds_11 : decode cX11_unfolds 11 = .ok (.iconst 0, 1) := by decide +kernel
theorem dX11_unfolds_12 : decode cX11_unfolds 12 = .ok (.putfield 173, 3) := by decide +kernel
theorem dX11_unfolds_15 : decode cX11_unfolds 15 = .ok (.iconst 0, 1) := by decide +kernel
theorem dX11_unfolds_16 : decode cX11_unfolds 16 = .ok (.istore_n 2, 1) := by decide +kernel
theorem dX11_unfolds_17 : decode cX11_unfolds 17 = .ok (.iload_n 2, 1) := by decide +kernel
theorem dX11_unfolds_18 : decode cX11_unfolds 18 = .ok (.bipush 48, 2) := by decide +kernel
theorem dX11_unfolds_20 : decode cX11_unfolds 20 = .ok (.if_icmp .ge 16, 3) := by decide +kernel
theorem dX11_unfolds_23 : decode cX11_unfolds 23 = .ok (.aload_n 0, 1) := by decide +kernel
theorem dX11_unfolds_24 : decode cX11_unfolds 24 = .ok (.getfield 32, 3) := by decide +kernel
theorem dX11_unfolds_27 : decode cX11_unfolds 27 = .ok (.iload_n 2, 1) := by decide +kernel
theorem dX11_unfolds_28 : decode cX11_unfolds 28 = .ok (.iconst 0, 1) := by decide +kernel
theorem dX11_unfolds_29 : decode cX11_unfolds 29 = .ok (.iastore, 1) := by decide +kernel
theorem dX11_unfolds_30 : decode cX11_unfolds 30 = .ok (.iinc 2 1, 3) := by decide +kernel
theorem dX11_unfolds_33 : decode cX11_unfolds 33 = .ok (.goto (-16), 3) := by decide +kernel
theorem dX11_unfolds_36 : decode cX11_unfolds 36 = .ok (.aload_n 0, 1) := by decide +kernel
theorem dX11_unfolds_37 : decode cX11_unfolds 37 = .ok (.invokevirtual 188, 3) := by decide +kernel
theorem dX11_unfolds_40 : decode cX11_unfolds 40 = .ok (.istore_n 2, 1) := by decide +kernel
theorem dX11_unfolds_41 : decode cX11_unfolds 41 = .ok (.aload_n 0, 1) := by decide +kernel
theorem dX11_unfolds_42 : decode cX11_unfolds 42 = .ok (.getfield 170, 3) := by decide +kernel
theorem dX11_unfolds_45 : decode cX11_unfolds 45 = .ok (.ifCond .le 5, 3) := by decide +kernel
theorem dX11_unfolds_48 : decode cX11_unfolds 48 = .ok (.iconst 0, 1) := by decide +kernel
theorem dX11_unfolds_49 : decode cX11_unfolds 49 = .ok (.ireturn, 1) := by decide +kernel
theorem dX11_unfolds_50 : decode cX11_unfolds 50 = .ok (.iload_n 2, 1) := by decide +kernel
theorem dX11_unfolds_51 : decode cX11_unfolds 51 = .ok (.iconst 5, 1) := by decide +kernel
theorem dX11_unfolds_52 : decode cX11_unfolds 52 = .ok (.ishr, 1) := by decide +kernel
theorem dX11_unfolds_53 : decode cX11_unfolds 53 = .ok (.iconst 3, 1) := by decide +kernel
theorem dX11_unfolds_54 : decode cX11_unfolds 54 = .ok (.if_icmp .eq 10, 3) := by decide +kernel
theorem dX11_unfolds_57 : decode cX11_unfolds 57 = .ok (.aload_n 0, 1) := by decide +kernel
theorem dX11_unfolds_58 : decode cX11_unfolds 58 = .ok (.iconst 2, 1) := by decide +kernel
theorem dX11_unfolds_59 : decode cX11_unfolds 59 = .ok (.iconst 0, 1) := by decide +kernel
theorem dX11_unfolds_60 : decode cX11_unfolds 60 = .ok (.invokevirtual 182, 3) := by decide +kernel
theorem dX11_unfolds_63 : decode cX11_unfolds 63 = .ok (.ireturn, 1) := by decide +kernel
theorem dX11_unfolds_64 : decode cX11_unfolds 64 = .ok (.aload_n 0, 1) := by decide +kernel
theorem dX11_unfolds_65 : decode cX11_unfolds 65 = .ok (.invokevirtual 188, 3) := by decide +kernel
theorem dX11_unfolds_68 : decode cX11_unfolds 68 = .ok (.istore_n 3, 1) := by decide +kernel
theorem dX11_unfolds_69 : decode cX11_unfolds 69 = .ok (.aload_n 0, 1) := by decide +kernel
theorem dX11_unfolds_70 : decode cX11_unfolds 70 = .ok (.getfield 170, 3) := by decide +kernel
theorem dX11_unfolds_73 : decode cX11_unfolds 73 = .ok (.ifCond .le 5, 3) := by decide +kernel
theorem dX11_unfolds_76 : decode cX11_unfolds 76 = .ok (.iconst 0, 1) := by decide +kernel
theorem dX11_unfolds_77 : decode cX11_unfolds 77 = .ok (.ireturn, 1) := by decide +kernel
theorem dX11_unfolds_78 : decode cX11_unfolds 78 = .ok (.iload_n 2, 1) := by decide +kernel
theorem dX11_unfolds_79 : decode cX11_unfolds 79 = .ok (.iconst 3, 1) := by decide +kernel
theorem dX11_unfolds_80 : decode cX11_unfolds 80 = .ok (.ishr, 1) := by decide +kernel
theorem dX11_unfolds_81 : decode cX11_unfolds 81 = .ok (.iconst 3, 1) := by decide +kernel
theorem dX11_unfolds_82 : decode cX11_unfolds 82 = .ok (.iand, 1) := by decide +kernel
theorem dX11_unfolds_83 : decode cX11_unfolds 83 = .ok (.istore 4, 2) := by decide +kernel
theorem dX11_unfolds_85 : decode cX11_unfolds 85 = .ok (.iload_n 2, 1) := by decide +kernel
theorem dX11_unfolds_86 : decode cX11_unfolds 86 = .ok (.iconst 4, 1) := by decide +kernel
theorem dX11_unfolds_87 : decode cX11_unfolds 87 = .ok (.iand, 1) := by decide +kernel
theorem dX11_unfolds_88 : decode cX11_unfolds 88 = .ok (.ifCond .eq 7, 3) := by decide +kernel
theorem dX11_unfolds_91 : decode cX11_unfolds 91 = .ok (.iconst 1, 1) := by decide +kernel
theorem dX11_unfolds_92 : decode cX11_unfolds 92 = .ok (.goto 4, 3) := by decide +kernel
theorem dX11_unfolds_95 : decode cX11_unfolds 95 = .ok (.iconst 0, 1) := by decide +kernel
theorem dX11_unfolds_96 : decode cX11_unfolds 96 = .ok (.istore 5, 2) := by decide +kernel
theorem dX11_unfolds_98 : decode cX11_unfolds 98 = .ok (.iload_n 3, 1) := by decide +kernel
theorem dX11_unfolds_99 : decode cX11_unfolds 99 = .ok (.bipush 7, 2) := by decide +kernel
theorem dX11_unfolds_101 : decode cX11_unfolds 101 = .ok (.ishr, 1) := by decide +kernel
theorem dX11_unfolds_102 : decode cX11_unfolds 102 = .ok (.istore 6, 2) := by decide +kernel
theorem dX11_unfolds_104 : decode cX11_unfolds 104 = .ok (.aload_n 0, 1) := by decide +kernel
theorem dX11_unfolds_105 : decode cX11_unfolds 105 = .ok (.iload_n 3, 1) := by decide +kernel
theorem dX11_unfolds_106 : decode cX11_unfolds 106 = .ok (.bipush 6, 2) := by decide +kernel
theorem dX11_unfolds_108 : decode cX11_unfolds 108 = .ok (.ishr, 1) := by decide +kernel
theorem dX11_unfolds_109 : decode cX11_unfolds 109 = .ok (.iconst 1, 1) := by decide +kernel
theorem dX11_unfolds_110 : decode cX11_unfolds 110 = .ok (.iand, 1) := by decide +kernel
theorem dX11_unfolds_111 : decode cX11_unfolds 111 = .ok (.putfield 104, 3) := by decide +kernel
theorem dX11_unfolds_114 : decode cX11_unfolds 114 = .ok (.aload_n 0, 1) := by decide +kernel
theorem dX11_unfolds_115 : decode cX11_unfolds 115 = .ok (.iload_n 3, 1) := by decide +kernel
theorem dX11_unfolds_116 : decode cX11_unfolds 116 = .ok (.iconst 4, 1) := by decide +kernel
theorem dX11_unfolds_117 : decode cX11_unfolds 117 = .ok (.ishr, 1) := by decide +kernel
theorem dX11_unfolds_118 : decode cX11_unfolds 118 = .ok (.iconst 3, 1) := by decide +kernel
theorem dX11_unfolds_119 : decode cX11_unfolds 119 = .ok (.iand, 1) := by decide +kernel
theorem dX11_unfolds_120 : decode cX11_unfolds 120 = .ok (.putfield 107, 3) := by decide +kernel
theorem dX11_unfolds_123 : decode cX11_unfolds 123 = .ok (.aload_n 0, 1) := by decide +kernel
theorem dX11_unfolds_124 : decode cX11_unfolds 124 = .ok (.iload_n 3, 1) := by decide +kernel
theorem dX11_unfolds_125 : decode cX11_unfolds 125 = .ok (.iconst 3, 1) := by decide +kernel
theorem dX11_unfolds_126 : decode cX11_unfolds 126 = .ok (.ishr, 1) := by decide +kernel
theorem dX11_unfolds_127 : decode cX11_unfolds 127 = .ok (.iconst 1, 1) := by decide +kernel
theorem dX11_unfolds_128 : decode cX11_unfolds 128 = .ok (.iand, 1) := by decide +kernel
theorem dX11_unfolds_129 : decode cX11_unfolds 129 = .ok (.putfield 125, 3) := by decide +kernel
theorem dX11_unfolds_132 : decode cX11_unfolds 132 = .ok (.aload_n 0, 1) := by decide +kernel
theorem dX11_unfolds_133 : decode cX11_unfolds 133 = .ok (.iload_n 3, 1) := by decide +kernel
theorem dX11_unfolds_134 : decode cX11_unfolds 134 = .ok (.iconst 2, 1) := by decide +kernel
theorem dX11_unfolds_135 : decode cX11_unfolds 135 = .ok (.ishr, 1) := by decide +kernel
theorem dX11_unfolds_136 : decode cX11_unfolds 136 = .ok (.iconst 1, 1) := by decide +kernel
theorem dX11_unfolds_137 : decode cX11_unfolds 137 = .ok (.iand, 1) := by decide +kernel
theorem dX11_unfolds_138 : decode cX11_unfolds 138 = .ok (.putfield 128, 3) := by decide +kernel
theorem dX11_unfolds_141 : decode cX11_unfolds 141 = .ok (.aload_n 0, 1) := by decide +kernel
theorem dX11_unfolds_142 : decode cX11_unfolds 142 = .ok (.iload_n 3, 1) := by decide +kernel
theorem dX11_unfolds_143 : decode cX11_unfolds 143 = .ok (.iconst 3, 1) := by decide +kernel
theorem dX11_unfolds_144 : decode cX11_unfolds 144 = .ok (.iand, 1) := by decide +kernel
theorem dX11_unfolds_145 : decode cX11_unfolds 145 = .ok (.putfield 131, 3) := by decide +kernel
theorem dX11_unfolds_148 : decode cX11_unfolds 148 = .ok (.aload_n 0, 1) := by decide +kernel
theorem dX11_unfolds_149 : decode cX11_unfolds 149 = .ok (.getfield 128, 3) := by decide +kernel
theorem dX11_unfolds_152 : decode cX11_unfolds 152 = .ok (.iconst 1, 1) := by decide +kernel
theorem dX11_unfolds_153 : decode cX11_unfolds 153 = .ok (.if_icmp .ne 25, 3) := by decide +kernel
theorem dX11_unfolds_156 : decode cX11_unfolds 156 = .ok (.aload_n 0, 1) := by decide +kernel
theorem dX11_unfolds_157 : decode cX11_unfolds 157 = .ok (.getfield 125, 3) := by decide +kernel
theorem dX11_unfolds_160 : decode cX11_unfolds 160 = .ok (.iconst 1, 1) := by decide +kernel
theorem dX11_unfolds_161 : decode cX11_unfolds 161 = .ok (.if_icmp .eq 10, 3) := by decide +kernel
theorem dX11_unfolds_164 : decode cX11_unfolds 164 = .ok (.aload_n 0, 1) := by decide +kernel
theorem dX11_unfolds_165 : decode cX11_unfolds 165 = .ok (.getfield 131, 3) := by decide +kernel
theorem dX11_unfolds_168 : decode cX11_unfolds 168 = .ok (.ifCond .ne 10, 3) := by decide +kernel
theorem dX11_unfolds_171 : decode cX11_unfolds 171 = .ok (.aload_n 0, 1) := by decide +kernel
theorem dX11_unfolds_172 : decode cX11_unfolds 172 = .ok (.iconst 3, 1) := by decide +kernel
theorem dX11_unfolds_173 : decode cX11_unfolds 173 = .ok (.iconst 1, 1) := by decide +kernel
theorem dX11_unfolds_174 : decode cX11_unfolds 174 = .ok (.invokevirtual 182, 3) := by decide +kernel
theorem dX11_unfolds_177 : decode cX11_unfolds 177 = .ok (.ireturn, 1) := by decide +kernel
theorem dX11_unfolds_178 : decode cX11_unfolds 178 = .ok (.iload 6, 2) := by decide +kernel
theorem dX11_unfolds_180 : decode cX11_unfolds 180 = .ok (.iconst 1, 1) := by decide +kernel
theorem dX11_unfolds_181 : decode cX11_unfolds 181 = .ok (.if_icmp .ne 10, 3) := by decide +kernel
theorem dX11_unfolds_184 : decode cX11_unfolds 184 = .ok (.aload_n 0, 1) := by decide +kernel
theorem dX11_unfolds_185 : decode cX11_unfolds 185 = .ok (.invokevirtual 188, 3) := by decide +kernel
theorem dX11_unfolds_188 : decode cX11_unfolds 188 = .ok (.goto 4, 3) := by decide +kernel
theorem dX11_unfolds_191 : decode cX11_unfolds 191 = .ok (.iconst 0, 1) := by decide +kernel
theorem dX11_unfolds_192 : decode cX11_unfolds 192 = .ok (.istore 7, 2) := by decide +kernel
theorem dX11_unfolds_194 : decode cX11_unfolds 194 = .ok (.aload_n 0, 1) := by decide +kernel
theorem dX11_unfolds_195 : decode cX11_unfolds 195 = .ok (.getfield 170, 3) := by decide +kernel
theorem dX11_unfolds_198 : decode cX11_unfolds 198 = .ok (.ifCond .le 5, 3) := by decide +kernel
theorem dX11_unfolds_201 : decode cX11_unfolds 201 = .ok (.iconst 0, 1) := by decide +kernel
theorem dX11_unfolds_202 : decode cX11_unfolds 202 = .ok (.ireturn, 1) := by decide +kernel
theorem dX11_unfolds_203 : decode cX11_unfolds 203 = .ok (.aload_n 0, 1) := by decide +kernel
theorem dX11_unfolds_204 : decode cX11_unfolds 204 = .ok (.getfield 104, 3) := by decide +kernel
theorem dX11_unfolds_207 : decode cX11_unfolds 207 = .ok (.iconst 1, 1) := by decide +kernel
theorem dX11_unfolds_208 : decode cX11_unfolds 208 = .ok (.if_icmp .ne 22, 3) := by decide +kernel
theorem dX11_unfolds_211 : decode cX11_unfolds 211 = .ok (.aload_n 0, 1) := by decide +kernel
theorem dX11_unfolds_212 : decode cX11_unfolds 212 = .ok (.getfield 107, 3) := by decide +kernel
theorem dX11_unfolds_215 : decode cX11_unfolds 215 = .ok (.ifCond .le 15, 3) := by decide +kernel
theorem dX11_unfolds_218 : decode cX11_unfolds 218 = .ok (.aload_n 0, 1) := by decide +kernel
theorem dX11_unfolds_219 : decode cX11_unfolds 219 = .ok (.getfield 7, 3) := by decide +kernel
theorem dX11_unfolds_222 : decode cX11_unfolds 222 = .ok (.iload 7, 2) := by decide +kernel
theorem dX11_unfolds_224 : decode cX11_unfolds 224 = .ok (.iconst 4, 1) := by decide +kernel
theorem dX11_unfolds_225 : decode cX11_unfolds 225 = .ok (.ishr, 1) := by decide +kernel
theorem dX11_unfolds_226 : decode cX11_unfolds 226 = .ok (.baload, 1) := by decide +kernel
theorem dX11_unfolds_227 : decode cX11_unfolds 227 = .ok (.ifCond .eq 31, 3) := by decide +kernel
theorem dX11_unfolds_230 : decode cX11_unfolds 230 = .ok (.aload_n 0, 1) := by decide +kernel
theorem dX11_unfolds_231 : decode cX11_unfolds 231 = .ok (.getfield 125, 3) := by decide +kernel
theorem dX11_unfolds_234 : decode cX11_unfolds 234 = .ok (.ifCond .ne 28, 3) := by decide +kernel
theorem dX11_unfolds_237 : decode cX11_unfolds 237 = .ok (.aload_n 0, 1) := by decide +kernel
theorem dX11_unfolds_238 : decode cX11_unfolds 238 = .ok (.getfield 128, 3) := by decide +kernel
theorem dX11_unfolds_241 : decode cX11_unfolds 241 = .ok (.iconst 1, 1) := by decide +kernel
theorem dX11_unfolds_242 : decode cX11_unfolds 242 = .ok (.if_icmp .ne 20, 3) := by decide +kernel
theorem dX11_unfolds_245 : decode cX11_unfolds 245 = .ok (.aload_n 0, 1) := by decide +kernel
theorem dX11_unfolds_246 : decode cX11_unfolds 246 = .ok (.getfield 7, 3) := by decide +kernel
theorem dX11_unfolds_249 : decode cX11_unfolds 249 = .ok (.iload 7, 2) := by decide +kernel
theorem dX11_unfolds_251 : decode cX11_unfolds 251 = .ok (.bipush 15, 2) := by decide +kernel
theorem dX11_unfolds_253 : decode cX11_unfolds 253 = .ok (.iand, 1) := by decide +kernel
theorem dX11_unfolds_254 : decode cX11_unfolds 254 = .ok (.baload, 1) := by decide +kernel
theorem dX11_unfolds_255 : decode cX11_unfolds 255 = .ok (.ifCond .ne 7, 3) := by decide +kernel
theorem dX11_unfolds_258 : decode cX11_unfolds 258 = .ok (.iconst 1, 1) := by decide +kernel
theorem dX11_unfolds_259 : decode cX11_unfolds 259 = .ok (.goto 4, 3) := by decide +kernel
theorem dX11_unfolds_262 : decode cX11_unfolds 262 = .ok (.iconst 0, 1) := by decide +kernel
theorem dX11_unfolds_263 : decode cX11_unfolds 263 = .ok (.istore 8, 2) := by decide +kernel
theorem dX11_unfolds_265 : decode cX11_unfolds 265 = .ok (.iload 8, 2) := by decide +kernel
theorem dX11_unfolds_267 : decode cX11_unfolds 267 = .ok (.ifCond .eq 20, 3) := by decide +kernel
theorem dX11_unfolds_270 : decode cX11_unfolds 270 = .ok (.aload_n 0, 1) := by decide +kernel
theorem dX11_unfolds_271 : decode cX11_unfolds 271 = .ok (.iconst 4, 1) := by decide +kernel
theorem dX11_unfolds_272 : decode cX11_unfolds 272 = .ok (.iload 6, 2) := by decide +kernel
theorem dX11_unfolds_274 : decode cX11_unfolds 274 = .ok (.iconst 1, 1) := by decide +kernel
theorem dX11_unfolds_275 : decode cX11_unfolds 275 = .ok (.if_icmp .ne 7, 3) := by decide +kernel
theorem dX11_unfolds_278 : decode cX11_unfolds 278 = .ok (.iconst 2, 1) := by decide +kernel
theorem dX11_unfolds_279 : decode cX11_unfolds 279 = .ok (.goto 4, 3) := by decide +kernel
theorem dX11_unfolds_282 : decode cX11_unfolds 282 = .ok (.iconst 1, 1) := by decide +kernel
theorem dX11_unfolds_283 : decode cX11_unfolds 283 = .ok (.invokevirtual 182, 3) := by decide +kernel
theorem dX11_unfolds_286 : decode cX11_unfolds 286 = .ok (.ireturn, 1) := by decide +kernel
theorem dX11_unfolds_287 : decode cX11_unfolds 287 = .ok (.aload_n 0, 1) := by decide +kernel
theorem dX11_unfolds_288 : decode cX11_unfolds 288 = .ok (.iload 4, 2) := by decide +kernel
theorem dX11_unfolds_290 : decode cX11_unfolds 290 = .ok (.invokevirtual 191, 3) := by decide +kernel
theorem dX11_unfolds_293 : decode cX11_unfolds 293 = .ok (.ifCond .ne 5, 3) := by decide +kernel
theorem dX11_unfolds_296 : decode cX11_unfolds 296 = .ok (.iconst 0, 1) := by decide +kernel
theorem dX11_unfolds_297 : decode cX11_unfolds 297 = .ok (.ireturn, 1) := by decide +kernel
theorem dX11_unfolds_298 : decode cX11_unfolds 298 = .ok (.aload_n 0, 1) := by decide +kernel
theorem dX11_unfolds_299 : decode cX11_unfolds 299 = .ok (.bipush 6, 2) := by decide +kernel
theorem dX11_unfolds_301 : decode cX11_unfolds 301 = .ok (.iload 5, 2) := by decide +kernel
theorem dX11_unfolds_303 : decode cX11_unfolds 303 = .ok (.ifCond .eq 8, 3) := by decide +kernel
theorem dX11_unfolds_306 : decode cX11_unfolds 306 = .ok (.bipush 17, 2) := by decide +kernel
theorem dX11_unfolds_308 : decode cX11_unfolds 308 = .ok (.goto 7, 3) := by decide +kernel
theorem dX11_unfolds_311 : decode cX11_unfolds 311 = .ok (.aload_n 0, 1) := by decide +kernel
theorem dX11_unfolds_312 : decode cX11_unfolds 312 = .ok (.invokevirtual 188, 3) := by decide +kernel
theorem dX11_unfolds_315 : decode cX11_unfolds 315 = .ok (.invokevirtual 185, 3) := by decide +kernel
theorem dX11_unfolds_318 : decode cX11_unfolds 318 = .ok (.iload_n 2, 1) := by decide +kernel
theorem dX11_unfolds_319 : decode cX11_unfolds 319 = .ok (.iconst 3, 1) := by decide +kernel
theorem dX11_unfolds_320 : decode cX11_unfolds 320 = .ok (.iand, 1) := by decide +kernel
theorem dX11_unfolds_321 : decode cX11_unfolds 321 = .ok (.istore 9, 2) := by decide +kernel
theorem dX11_unfolds_323 : decode cX11_unfolds 323 = .ok (.aload_n 0, 1) := by decide +kernel
theorem dX11_unfolds_324 : decode cX11_unfolds 324 = .ok (.bipush 7, 2) := by decide +kernel
theorem dX11_unfolds_326 : decode cX11_unfolds 326 = .ok (.iload 9, 2) := by decide +kernel
theorem dX11_unfolds_328 : decode cX11_unfolds 328 = .ok (.ifCond .ne 10, 3) := by decide +kernel
theorem dX11_unfolds_331 : decode cX11_unfolds 331 = .ok (.aload_n 0, 1) := by decide +kernel
theorem dX11_unfolds_332 : decode cX11_unfolds 332 = .ok (.invokevirtual 188, 3) := by decide +kernel
theorem dX11_unfolds_335 : decode cX11_unfolds 335 = .ok (.goto 27, 3) := by decide +kernel
theorem dX11_unfolds_338 : decode cX11_unfolds 338 = .ok (.iload 9, 2) := by decide +kernel
theorem dX11_unfolds_340 : decode cX11_unfolds 340 = .ok (.iconst 1, 1) := by decide +kernel
theorem dX11_unfolds_341 : decode cX11_unfolds 341 = .ok (.if_icmp .ne 7, 3) := by decide +kernel
theorem dX11_unfolds_344 : decode cX11_unfolds 344 = .ok (.iconst 1, 1) := by decide +kernel
theorem dX11_unfolds_345 : decode cX11_unfolds 345 = .ok (.goto 17, 3) := by decide +kernel
theorem dX11_unfolds_348 : decode cX11_unfolds 348 = .ok (.iload 9, 2) := by decide +kernel
theorem dX11_unfolds_350 : decode cX11_unfolds 350 = .ok (.iconst 2, 1) := by decide +kernel
theorem dX11_unfolds_351 : decode cX11_unfolds 351 = .ok (.if_icmp .ne 8, 3) := by decide +kernel
theorem dX11_unfolds_354 : decode cX11_unfolds 354 = .ok (.bipush 64, 2) := by decide +kernel
theorem dX11_unfolds_356 : decode cX11_unfolds 356 = .ok (.goto 6, 3) := by decide +kernel
theorem dX11_unfolds_359 : decode cX11_unfolds 359 = .ok (.sipush 255, 3) := by decide +kernel
theorem dX11_unfolds_362 : decode cX11_unfolds 362 = .ok (.invokevirtual 185, 3) := by decide +kernel
theorem dX11_unfolds_365 : decode cX11_unfolds 365 = .ok (.aload_n 0, 1) := by decide +kernel
theorem dX11_unfolds_366 : decode cX11_unfolds 366 = .ok (.iload 7, 2) := by decide +kernel
theorem dX11_unfolds_368 : decode cX11_unfolds 368 = .ok (.iconst 4, 1) := by decide +kernel
theorem dX11_unfolds_369 : decode cX11_unfolds 369 = .ok (.ishr, 1) := by decide +kernel
theorem dX11_unfolds_370 : decode cX11_unfolds 370 = .ok (.invokevirtual 194, 3) := by decide +kernel
theorem dX11_unfolds_373 : decode cX11_unfolds 373 = .ok (.aload_n 0, 1) := by decide +kernel
theorem dX11_unfolds_374 : decode cX11_unfolds 374 = .ok (.iload 7, 2) := by decide +kernel
theorem dX11_unfolds_376 : decode cX11_unfolds 376 = .ok (.bipush 15, 2) := by decide +kernel
theorem dX11_unfolds_378 : decode cX11_unfolds 378 = .ok (.iand, 1) := by decide +kernel
theorem dX11_unfolds_379 : decode cX11_unfolds 379 = .ok (.invokevirtual 197, 3) := by decide +kernel
theorem dX11_unfolds_382 : decode cX11_unfolds 382 = .ok (.aload_n 0, 1) := by decide +kernel
theorem dX11_unfolds_383 : decode cX11_unfolds 383 = .ok (.getfield 170, 3) := by decide +kernel
theorem dX11_unfolds_386 : decode cX11_unfolds 386 = .ok (.ifCond .le 5, 3) := by decide +kernel
theorem dX11_unfolds_389 : decode cX11_unfolds 389 = .ok (.iconst 0, 1) := by decide +kernel
theorem dX11_unfolds_390 : decode cX11_unfolds 390 = .ok (.ireturn, 1) := by decide +kernel
theorem dX11_unfolds_391 : decode cX11_unfolds 391 = .ok (.bipush (-2), 2) := by decide +kernel
theorem dX11_unfolds_393 : decode cX11_unfolds 393 = .ok (.istore 10, 2) := by decide +kernel
theorem dX11_unfolds_395 : decode cX11_unfolds 395 = .ok (.iload 5, 2) := by decide +kernel
theorem dX11_unfolds_397 : decode cX11_unfolds 397 = .ok (.ifCond .eq 70, 3) := by decide +kernel
theorem dX11_unfolds_400 : decode cX11_unfolds 400 = .ok (.aload_n 0, 1) := by decide +kernel
theorem dX11_unfolds_401 : decode cX11_unfolds 401 = .ok (.getfield 176, 3) := by decide +kernel
theorem dX11_unfolds_404 : decode cX11_unfolds 404 = .ok (.istore 11, 2) := by decide +kernel
theorem dX11_unfolds_406 : decode cX11_unfolds 406 = .ok (.aload_n 0, 1) := by decide +kernel
theorem dX11_unfolds_407 : decode cX11_unfolds 407 = .ok (.invokevirtual 188, 3) := by decide +kernel
theorem dX11_unfolds_410 : decode cX11_unfolds 410 = .ok (.istore 12, 2) := by decide +kernel
theorem dX11_unfolds_412 : decode cX11_unfolds 412 = .ok (.aload_n 0, 1) := by decide +kernel
theorem dX11_unfolds_413 : decode cX11_unfolds 413 = .ok (.getfield 170, 3) := by decide +kernel
theorem dX11_unfolds_416 : decode cX11_unfolds 416 = .ok (.ifCond .le 5, 3) := by decide +kernel
theorem dX11_unfolds_419 : decode cX11_unfolds 419 = .ok (.iconst 0, 1) := by decide +kernel
theorem dX11_unfolds_420 : decode cX11_unfolds 420 = .ok (.ireturn, 1) := by decide +kernel
theorem dX11_unfolds_421 : decode cX11_unfolds 421 = .ok (.iload 12, 2) := by decide +kernel
theorem dX11_unfolds_423 : decode cX11_unfolds 423 = .ok (.sipush 240, 3) := by decide +kernel
theorem dX11_unfolds_426 : decode cX11_unfolds 426 = .ok (.sipush 243, 3) := by decide +kernel
theorem dX11_unfolds_429 : decode cX11_unfolds 429 = .ok (.invokestatic 72, 3) := by decide +kernel
theorem dX11_unfolds_432 : decode cX11_unfolds 432 = .ok (.ifCond .ne 12, 3) := by decide +kernel
theorem dX11_unfolds_435 : decode cX11_unfolds 435 = .ok (.aload_n 0, 1) := by decide +kernel
theorem dX11_unfolds_436 : decode cX11_unfolds 436 = .ok (.bipush 6, 2) := by decide +kernel
theorem dX11_unfolds_438 : decode cX11_unfolds 438 = .ok (.iload 11, 2) := by decide +kernel
theorem dX11_unfolds_440 : decode cX11_unfolds 440 = .ok (.invokevirtual 182, 3) := by decide +kernel
theorem dX11_unfolds_443 : decode cX11_unfolds 443 = .ok (.ireturn, 1) := by decide +kernel
theorem dX11_unfolds_444 : decode cX11_unfolds 444 = .ok (.iload 12, 2) := by decide +kernel
theorem dX11_unfolds_446 : decode cX11_unfolds 446 = .ok (.sipush 240, 3) := by decide +kernel
theorem dX11_unfolds_449 : decode cX11_unfolds 449 = .ok (.isub, 1) := by decide +kernel
theorem dX11_unfolds_450 : decode cX11_unfolds 450 = .ok (.istore 10, 2) := by decide +kernel
theorem dX11_unfolds_452 : decode cX11_unfolds 452 = .ok (.aload_n 0, 1) := by decide +kernel
theorem dX11_unfolds_453 : decode cX11_unfolds 453 = .ok (.iload 10, 2) := by decide +kernel
theorem dX11_unfolds_455 : decode cX11_unfolds 455 = .ok (.invokevirtual 200, 3) := by decide +kernel
theorem dX11_unfolds_458 : decode cX11_unfolds 458 = .ok (.aload_n 0, 1) := by decide +kernel
theorem dX11_unfolds_459 : decode cX11_unfolds 459 = .ok (.getfield 170, 3) := by decide +kernel
theorem dX11_unfolds_462 : decode cX11_unfolds 462 = .ok (.ifCond .le 5, 3) := by decide +kernel
theorem dX11_unfolds_465 : decode cX11_unfolds 465 = .ok (.iconst 0, 1) := by decide +kernel
theorem dX11_unfolds_466 : decode cX11_unfolds 466 = .ok (.ireturn, 1) := by decide +kernel
theorem dX11_unfolds_467 : decode cX11_unfolds 467 = .ok (.aload_n 0, 1) := by decide +kernel
theorem dX11_unfolds_468 : decode cX11_unfolds 468 = .ok (.iload_n 1, 1) := by decide +kernel
theorem dX11_unfolds_469 : decode cX11_unfolds 469 = .ok (.iload 5, 2) := by decide +kernel
theorem dX11_unfolds_471 : decode cX11_unfolds 471 = .ok (.iload 10, 2) := by decide +kernel
theorem dX11_unfolds_473 : decode cX11_unfolds 473 = .ok (.iload 4, 2) := by decide +kernel
theorem dX11_unfolds_475 : decode cX11_unfolds 475 = .ok (.iload 6, 2) := by decide +kernel
theorem dX11_unfolds_477 : decode cX11_unfolds 477 = .ok (.invokevirtual 203, 3) := by decide +kernel
theorem dX11_unfolds_480 : decode cX11_unfolds 480 = .ok (.ireturn, 1) := by decide +kernel
theorem dX11_ends_0 : decode cX11_ends 0 = .ok (.aload_n 0, 1) := by decide +kernel
theorem dX11_ends_1 : decode cX11_ends 1 = .ok (.getfield 35, 3) := by decide +kernel
theorem dX11_ends_4 : decode cX11_ends 4 = .ok (.iconst 2, 1) := by decide +kernel
theorem dX11_ends_5 : decode cX11_ends 5 = .ok (.iload 4, 2) := by decide +kernel
theorem dX11_ends_7 : decode cX11_ends 7 = .ok (.iastore, 1) := by decide +kernel
theorem dX11_ends_8 : decode cX11_ends 8 = .ok (.aload_n 0, 1) := by decide +kernel
theorem dX11_ends_9 : decode cX11_ends 9 = .ok (.getfield 35, 3) := by decide +kernel
theorem dX11_ends_12 : decode cX11_ends 12 = .ok (.iconst 3, 1) := by decide +kernel
theorem dX11_ends_13 : decode cX11_ends 13 = .ok (.iload 5, 2) := by decide +kernel
theorem dX11_ends_15 : decode cX11_ends 15 = .ok (.iastore, 1) := by decide +kernel
theorem dX11_ends_16 : decode cX11_ends 16 = .ok (.aload_n 0, 1) := by decide +kernel
theorem dX11_ends_17 : decode cX11_ends 17 = .ok (.getfield 35, 3) := by decide +kernel
theorem dX11_ends_20 : decode cX11_ends 20 = .ok (.iconst 4, 1) := by decide +kernel
theorem dX11_ends_21 : decode cX11_ends 21 = .ok (.iconst 4, 1) := by decide +kernel
theorem dX11_ends_22 : decode cX11_ends 22 = .ok (.aload_n 0, 1) := by decide +kernel
theorem dX11_ends_23 : decode cX11_ends 23 = .ok (.getfield 104, 3) := by decide +kernel
theorem dX11_ends_26 : decode cX11_ends 26 = .ok (.imul, 1) := by decide +kernel
theorem dX11_ends_27 : decode cX11_ends 27 = .ok (.aload_n 0, 1) := by decide +kernel
theorem dX11_ends_28 : decode cX11_ends 28 = .ok (.getfield 107, 3) := by decide +kernel
theorem dX11_ends_31 : decode cX11_ends 31 = .ok (.iadd, 1) := by decide +kernel
theorem dX11_ends_32 : decode cX11_ends 32 = .ok (.iastore, 1) := by decide +kernel
theorem dX11_ends_33 : decode cX11_ends 33 = .ok (.aload_n 0, 1) := by decide +kernel
theorem dX11_ends_34 : decode cX11_ends 34 = .ok (.getfield 35, 3) := by decide +kernel
theorem dX11_ends_37 : decode cX11_ends 37 = .ok (.iconst 5, 1) := by decide +kernel
theorem dX11_ends_38 : decode cX11_ends 38 = .ok (.bipush 8, 2) := by decide +kernel
theorem dX11_ends_40 : decode cX11_ends 40 = .ok (.aload_n 0, 1) := by decide +kernel
theorem dX11_ends_41 : decode cX11_ends 41 = .ok (.getfield 125, 3) := by decide +kernel
theorem dX11_ends_44 : decode cX11_ends 44 = .ok (.imul, 1) := by decide +kernel
theorem dX11_ends_45 : decode cX11_ends 45 = .ok (.iconst 4, 1) := by decide +kernel
theorem dX11_ends_46 : decode cX11_ends 46 = .ok (.aload_n 0, 1) := by decide +kernel
theorem dX11_ends_47 : decode cX11_ends 47 = .ok (.getfield 128, 3) := by decide +kernel
theorem dX11_ends_50 : decode cX11_ends 50 = .ok (.imul, 1) := by decide +kernel
theorem dX11_ends_51 : decode cX11_ends 51 = .ok (.iadd, 1) := by decide +kernel
theorem dX11_ends_52 : decode cX11_ends 52 = .ok (.aload_n 0, 1) := by decide +kernel
theorem dX11_ends_53 : decode cX11_ends 53 = .ok (.getfield 131, 3) := by decide +kernel
theorem dX11_ends_56 : decode cX11_ends 56 = .ok (.iadd, 1) := by decide +kernel
theorem dX11_ends_57 : decode cX11_ends 57 = .ok (.iastore, 1) := by decide +kernel
theorem dX11_ends_58 : decode cX11_ends 58 = .ok (.aload_n 0, 1) := by decide +kernel
theorem dX11_ends_59 : decode cX11_ends 59 = .ok (.getfield 35, 3) := by decide +kernel
theorem dX11_ends_62 : decode cX11_ends 62 = .ok (.bipush 6, 2) := by decide +kernel
theorem dX11_ends_64 : decode cX11_ends 64 = .ok (.iload_n 3, 1) := by decide +kernel
theorem dX11_ends_65 : decode cX11_ends 65 = .ok (.iastore, 1) := by decide +kernel
theorem dX11_ends_66 : decode cX11_ends 66 = .ok (.aload_n 0, 1) := by decide +kernel
theorem dX11_ends_67 : decode cX11_ends 67 = .ok (.getfield 35, 3) := by decide +kernel
theorem dX11_ends_70 : decode cX11_ends 70 = .ok (.bipush 7, 2) := by decide +kernel
theorem dX11_ends_72 : decode cX11_ends 72 = .ok (.aload_n 0, 1) := by decide +kernel
theorem dX11_ends_73 : decode cX11_ends 73 = .ok (.getfield 176, 3) := by decide +kernel
theorem dX11_ends_76 : decode cX11_ends 76 = .ok (.iastore, 1) := by decide +kernel
theorem dX11_ends_77 : decode cX11_ends 77 = .ok (.aload_n 0, 1) := by decide +kernel
theorem dX11_ends_78 : decode cX11_ends 78 = .ok (.iload_n 2, 1) := by decide +kernel
theorem dX11_ends_79 : decode cX11_ends 79 = .ok (.ifCond .eq 8, 3) := by decide +kernel
theorem dX11_ends_82 : decode cX11_ends 82 = .ok (.bipush 48, 2) := by decide +kernel
theorem dX11_ends_84 : decode cX11_ends 84 = .ok (.goto 5, 3) := by decide +kernel
theorem dX11_ends_87 : decode cX11_ends 87 = .ok (.bipush 40, 2) := by decide +kernel
theorem dX11_ends_89 : decode cX11_ends 89 = .ok (.putfield 207, 3) := by decide +kernel
theorem dX11_ends_92 : decode cX11_ends 92 = .ok (.aload_n 0, 1) := by decide +kernel
theorem dX11_ends_93 : decode cX11_ends 93 = .ok (.getfield 179, 3) := by decide +kernel
theorem dX11_ends_96 : decode cX11_ends 96 = .ok (.aload_n 0, 1) := by decide +kernel
theorem dX11_ends_97 : decode cX11_ends 97 = .ok (.getfield 176, 3) := by decide +kernel
theorem dX11_ends_100 : decode cX11_ends 100 = .ok (.isub, 1) := by decide +kernel
theorem dX11_ends_101 : decode cX11_ends 101 = .ok (.istore 6, 2) := by decide +kernel
theorem dX11_ends_103 : decode cX11_ends 103 = .ok (.iload_n 1, 1) := by decide +kernel
theorem dX11_ends_104 : decode cX11_ends 104 = .ok (.ifCond .ge 16, 3) := by decide +kernel
theorem dX11_ends_107 : decode cX11_ends 107 = .ok (.aload_n 0, 1) := by decide +kernel
theorem dX11_ends_108 : decode cX11_ends 108 = .ok (.getfield 207, 3) := by decide +kernel
theorem dX11_ends_111 : decode cX11_ends 111 = .ok (.bipush 40, 2) := by decide +kernel
theorem dX11_ends_113 : decode cX11_ends 113 = .ok (.isub, 1) := by decide +kernel
theorem dX11_ends_114 : decode cX11_ends 114 = .ok (.iload 6, 2) := by decide +kernel
theorem dX11_ends_116 : decode cX11_ends 116 = .ok (.iadd, 1) := by decide +kernel
theorem dX11_ends_117 : decode cX11_ends 117 = .ok (.goto 7, 3) := by decide +kernel
theorem dX11_ends_120 : decode cX11_ends 120 = .ok (.iload_n 1, 1) := by decide +kernel
theorem dX11_ends_121 : decode cX11_ends 121 = .ok (.bipush 40, 2) := by decide +kernel
theorem dX11_ends_123 : decode cX11_ends 123 = .ok (.isub, 1) := by decide +kernel
theorem dX11_ends_124 : decode cX11_ends 124 = .ok (.istore 7, 2) := by decide +kernel
theorem dX11_ends_126 : decode cX11_ends 126 = .ok (.iload 7, 2) := by decide +kernel
theorem dX11_ends_128 : decode cX11_ends 128 = .ok (.sipush 560, 3) := by decide +kernel
theorem dX11_ends_131 : decode cX11_ends 131 = .ok (.if_icmp .le 14, 3) := by decide +kernel
theorem dX11_ends_134 : decode cX11_ends 134 = .ok (.aload_n 0, 1) := by decide +kernel
theorem dX11_ends_135 : decode cX11_ends 135 = .ok (.bipush 7, 2) := by decide +kernel
theorem dX11_ends_137 : decode cX11_ends 137 = .ok (.aload_n 0, 1) := by decide +kernel
theorem dX11_ends_138 : decode cX11_ends 138 = .ok (.getfield 179, 3) := by decide +kernel
theorem dX11_ends_141 : decode cX11_ends 141 = .ok (.invokevirtual 182, 3) := by decide +kernel
theorem dX11_ends_144 : decode cX11_ends 144 = .ok (.ireturn, 1) := by decide +kernel
theorem dX11_ends_145 : decode cX11_ends 145 = .ok (.aload_n 0, 1) := by decide +kernel
theorem dX11_ends_146 : decode cX11_ends 146 = .ok (.iconst 4, 1) := by decide +kernel
theorem dX11_ends_147 : decode cX11_ends 147 = .ok (.iload 7, 2) := by decide +kernel
theorem dX11_ends_149 : decode cX11_ends 149 = .ok (.bipush 8, 2) := by decide +kernel
theorem dX11_ends_151 : decode cX11_ends 151 = .ok (.ishr, 1) := by decide +kernel
theorem dX11_ends_152 : decode cX11_ends 152 = .ok (.invokevirtual 185, 3) := by decide +kernel
theorem dX11_ends_155 : decode cX11_ends 155 = .ok (.aload_n 0, 1) := by decide +kernel
theorem dX11_ends_156 : decode cX11_ends 156 = .ok (.iconst 5, 1) := by decide +kernel
theorem dX11_ends_157 : decode cX11_ends 157 = .ok (.iload 7, 2) := by decide +kernel
theorem dX11_ends_159 : decode cX11_ends 159 = .ok (.invokevirtual 185, 3) := by decide +kernel
theorem dX11_ends_162 : decode cX11_ends 162 = .ok (.iload_n 2, 1) := by decide +kernel
theorem dX11_ends_163 : decode cX11_ends 163 = .ok (.ifCond .eq 22, 3) := by decide +kernel
theorem dX11_ends_166 : decode cX11_ends 166 = .ok (.aload_n 0, 1) := by decide +kernel
theorem dX11_ends_167 : decode cX11_ends 167 = .ok (.bipush 44, 2) := by decide +kernel
theorem dX11_ends_169 : decode cX11_ends 169 = .ok (.iload 7, 2) := by decide +kernel
theorem dX11_ends_171 : decode cX11_ends 171 = .ok (.bipush 8, 2) := by decide +kernel
theorem dX11_ends_173 : decode cX11_ends 173 = .ok (.ishr, 1) := by decide +kernel
theorem dX11_ends_174 : decode cX11_ends 174 = .ok (.invokevirtual 185, 3) := by decide +kernel
theorem dX11_ends_177 : decode cX11_ends 177 = .ok (.aload_n 0, 1) := by decide +kernel
theorem dX11_ends_178 : decode cX11_ends 178 = .ok (.bipush 45, 2) := by decide +kernel
theorem dX11_ends_180 : decode cX11_ends 180 = .ok (.iload 7, 2) := by decide +kernel
theorem dX11_ends_182 : decode cX11_ends 182 = .ok (.invokevirtual 185, 3) := by decide +kernel
theorem dX11_ends_185 : decode cX11_ends 185 = .ok (.iconst 0, 1) := by decide +kernel
theorem dX11_ends_186 : decode cX11_ends 186 = .ok (.istore 8, 2) := by decide +kernel
theorem dX11_ends_188 : decode cX11_ends 188 = .ok (.iload 8, 2) := by decide +kernel
theorem dX11_ends_190 : decode cX11_ends 190 = .ok (.iload 6, 2) := by decide +kernel
theorem dX11_ends_192 : decode cX11_ends 192 = .ok (.if_icmp .ge 39, 3) := by decide +kernel
theorem dX11_ends_195 : decode cX11_ends 195 = .ok (.aload_n 0, 1) := by decide +kernel
theorem dX11_ends_196 : decode cX11_ends 196 = .ok (.aload_n 0, 1) := by decide +kernel
theorem dX11_ends_197 : decode cX11_ends 197 = .ok (.getfield 207, 3) := by decide +kernel
theorem dX11_ends_200 : decode cX11_ends 200 = .ok (.aload_n 0, 1) := by decide +kernel
theorem dX11_ends_201 : decode cX11_ends 201 = .ok (.getfield 29, 3) := by decide +kernel
theorem dX11_ends_204 : decode cX11_ends 204 = .ok (.aload_n 0, 1) := by decide +kernel
theorem dX11_ends_205 : decode cX11_ends 205 = .ok (.getfield 176, 3) := by decide +kernel
theorem dX11_ends_208 : decode cX11_ends 208 = .ok (.iload 8, 2) := by decide +kernel
theorem dX11_ends_210 : decode cX11_ends 210 = .ok (.iadd, 1) := by decide +kernel
theorem dX11_ends_211 : decode cX11_ends 211 = .ok (.iaload, 1) := by decide +kernel
theorem dX11_ends_212 : decode cX11_ends 212 = .ok (.invokevirtual 185, 3) := by decide +kernel
theorem dX11_ends_215 : decode cX11_ends 215 = .ok (.aload_n 0, 1) := by decide +kernel
theorem dX11_ends_216 : decode cX11_ends 216 = .ok (.dup, 1) := by decide +kernel
theorem dX11_ends_217 : decode cX11_ends 217 = .ok (.getfield 207, 3) := by decide +kernel
theorem dX11_ends_220 : decode cX11_ends 220 = .ok (.iconst 1, 1) := by decide +kernel
theorem dX11_ends_221 : decode cX11_ends 221 = .ok (.iadd, 1) := by decide +kernel
theorem dX11_ends_222 : decode cX11_ends 222 = .ok (.putfield 207, 3) := by decide +kernel
theorem dX11_ends_225 : decode cX11_ends 225 = .ok (.iinc 8 1, 3) := by decide +kernel
theorem dX11_ends_228 : decode cX11_ends 228 = .ok (.goto (-40), 3) := by decide +kernel
theorem dX11_ends_231 : decode cX11_ends 231 = .ok (.iconst 1, 1) := by decide +kernel
theorem dX11_ends_232 : decode cX11_ends 232 = .ok (.ireturn, 1) := by decide +kernel
theorem dX11_unfoldsFirst_0 : decode cX11_unfoldsFirst 0 = .ok (.aload_n 0, 1) := by decide +kernel
theorem dX11_unfoldsFirst_1 : decode cX11_unfoldsFirst 1 = .ok (.getfield 176, 3) := by decide +kernel
theorem dX11_unfoldsFirst_4 : decode cX11_unfoldsFirst 4 = .ok (.istore_n 2, 1) := by decide +kernel
theorem dX11_unfoldsFirst_5 : decode cX11_unfoldsFirst 5 = .ok (.iconst 0, 1) := by decide +kernel
theorem dX11_unfoldsFirst_6 : decode cX11_unfoldsFirst 6 = .ok (.istore_n 3, 1) := by decide +kernel
theorem dX11_unfoldsFirst_7 : decode cX11_unfoldsFirst 7 = .ok (.iconst 0, 1) := by decide +kernel
theorem dX11_unfoldsFirst_8 : decode cX11_unfoldsFirst 8 = .ok (.istore 4, 2) := by decide +kernel
theorem dX11_unfoldsFirst_10 : decode cX11_unfoldsFirst 10 = .ok (.iload_n 1, 1) := by decide +kernel
theorem dX11_unfoldsFirst_11 : decode cX11_unfoldsFirst 11 = .ok (.iconst 3, 1) := by decide +kernel
theorem dX11_unfoldsFirst_12 : decode cX11_unfoldsFirst 12 = .ok (.if_icmp .ge 145, 3) := by decide +kernel
theorem dX11_unfoldsFirst_15 : decode cX11_unfoldsFirst 15 = .ok (.aload_n 0, 1) := by decide +kernel
theorem dX11_unfoldsFirst_16 : decode cX11_unfoldsFirst 16 = .ok (.invokevirtual 188, 3) := by decide +kernel
theorem dX11_unfoldsFirst_19 : decode cX11_unfoldsFirst 19 = .ok (.istore 5, 2) := by decide +kernel
theorem dX11_unfoldsFirst_21 : decode cX11_unfoldsFirst 21 = .ok (.iload_n 1, 1) := by decide +kernel
theorem dX11_unfoldsFirst_22 : decode cX11_unfoldsFirst 22 = .ok (.iconst 1, 1) := by decide +kernel
theorem dX11_unfoldsFirst_23 : decode cX11_unfoldsFirst 23 = .ok (.if_icmp .ne 7, 3) := by decide +kernel
theorem dX11_unfoldsFirst_26 : decode cX11_unfoldsFirst 26 = .ok (.iconst 0, 1) := by decide +kernel
theorem dX11_unfoldsFirst_27 : decode cX11_unfoldsFirst 27 = .ok (.goto 10, 3) := by decide +kernel
theorem dX11_unfoldsFirst_30 : decode cX11_unfoldsFirst 30 = .ok (.iload 5, 2) := by decide +kernel
theorem dX11_unfoldsFirst_32 : decode cX11_unfoldsFirst 32 = .ok (.bipush 63, 2) := by decide +kernel
theorem dX11_unfoldsFirst_34 : decode cX11_unfoldsFirst 34 = .ok (.iand, 1) := by decide +kernel
theorem dX11_unfoldsFirst_35 : decode cX11_unfoldsFirst 35 = .ok (.iconst 2, 1) := by decide +kernel
theorem dX11_unfoldsFirst_36 : decode cX11_unfoldsFirst 36 = .ok (.ishl, 1) := by decide +kernel
theorem dX11_unfoldsFirst_37 : decode cX11_unfoldsFirst 37 = .ok (.iload 5, 2) := by decide +kernel
theorem dX11_unfoldsFirst_39 : decode cX11_unfoldsFirst 39 = .ok (.bipush 6, 2) := by decide +kernel
theorem dX11_unfoldsFirst_41 : decode cX11_unfoldsFirst 41 = .ok (.ishr, 1) := by decide +kernel
theorem dX11_unfoldsFirst_42 : decode cX11_unfoldsFirst 42 = .ok (.ior, 1) := by decide +kernel
theorem dX11_unfoldsFirst_43 : decode cX11_unfoldsFirst 43 = .ok (.istore_n 3, 1) := by decide +kernel
theorem dX11_unfoldsFirst_44 : decode cX11_unfoldsFirst 44 = .ok (.iload_n 1, 1) := by decide +kernel
theorem dX11_unfoldsFirst_45 : decode cX11_unfoldsFirst 45 = .ok (.ifCond .ne 10, 3) := by decide +kernel
theorem dX11_unfoldsFirst_48 : decode cX11_unfoldsFirst 48 = .ok (.aload_n 0, 1) := by decide +kernel
theorem dX11_unfoldsFirst_49 : decode cX11_unfoldsFirst 49 = .ok (.invokevirtual 188, 3) := by decide +kernel
theorem dX11_unfoldsFirst_52 : decode cX11_unfoldsFirst 52 = .ok (.goto 17, 3) := by decide +kernel
theorem dX11_unfoldsFirst_55 : decode cX11_unfoldsFirst 55 = .ok (.iload_n 1, 1) := by decide +kernel
theorem dX11_unfoldsFirst_56 : decode cX11_unfoldsFirst 56 = .ok (.iconst 1, 1) := by decide +kernel
theorem dX11_unfoldsFirst_57 : decode cX11_unfoldsFirst 57 = .ok (.if_icmp .ne 11, 3) := by decide +kernel
theorem dX11_unfoldsFirst_60 : decode cX11_unfoldsFirst 60 = .ok (.iload 5, 2) := by decide +kernel
theorem dX11_unfoldsFirst_62 : decode cX11_unfoldsFirst 62 = .ok (.bipush 15, 2) := by decide +kernel
theorem dX11_unfoldsFirst_64 : decode cX11_unfoldsFirst 64 = .ok (.iand, 1) := by decide +kernel
theorem dX11_unfoldsFirst_65 : decode cX11_unfoldsFirst 65 = .ok (.goto 4, 3) := by decide +kernel
theorem dX11_unfoldsFirst_68 : decode cX11_unfoldsFirst 68 = .ok (.iconst 0, 1) := by decide +kernel
theorem dX11_unfoldsFirst_69 : decode cX11_unfoldsFirst 69 = .ok (.istore 6, 2) := by decide +kernel
theorem dX11_unfoldsFirst_71 : decode cX11_unfoldsFirst 71 = .ok (.iload_n 1, 1) := by decide +kernel
theorem dX11_unfoldsFirst_72 : decode cX11_unfoldsFirst 72 = .ok (.iconst 2, 1) := by decide +kernel
theorem dX11_unfoldsFirst_73 : decode cX11_unfoldsFirst 73 = .ok (.if_icmp .ge 10, 3) := by decide +kernel
theorem dX11_unfoldsFirst_76 : decode cX11_unfoldsFirst 76 = .ok (.aload_n 0, 1) := by decide +kernel
theorem dX11_unfoldsFirst_77 : decode cX11_unfoldsFirst 77 = .ok (.invokevirtual 188, 3) := by decide +kernel
theorem dX11_unfoldsFirst_80 : decode cX11_unfoldsFirst 80 = .ok (.goto 4, 3) := by decide +kernel
theorem dX11_unfoldsFirst_83 : decode cX11_unfoldsFirst 83 = .ok (.iconst 0, 1) := by decide +kernel
theorem dX11_unfoldsFirst_84 : decode cX11_unfoldsFirst 84 = .ok (.istore 7, 2) := by decide +kernel
theorem dX11_unfoldsFirst_86 : decode cX11_unfoldsFirst 86 = .ok (.iload_n 1, 1) := by decide +kernel
theorem dX11_unfoldsFirst_87 : decode cX11_unfoldsFirst 87 = .ok (.iconst 2, 1) := by decide +kernel
theorem dX11_unfoldsFirst_88 : decode cX11_unfoldsFirst 88 = .ok (.if_icmp .ge 10, 3) := by decide +kernel
theorem dX11_unfoldsFirst_91 : decode cX11_unfoldsFirst 91 = .ok (.aload_n 0, 1) := by decide +kernel
theorem dX11_unfoldsFirst_92 : decode cX11_unfoldsFirst 92 = .ok (.invokevirtual 188, 3) := by decide +kernel
theorem dX11_unfoldsFirst_95 : decode cX11_unfoldsFirst 95 = .ok (.goto 4, 3) := by decide +kernel
theorem dX11_unfoldsFirst_98 : decode cX11_unfoldsFirst 98 = .ok (.iconst 0, 1) := by decide +kernel
theorem dX11_unfoldsFirst_99 : decode cX11_unfoldsFirst 99 = .ok (.istore 8, 2) := by decide +kernel
theorem dX11_unfoldsFirst_101 : decode cX11_unfoldsFirst 101 = .ok (.aload_n 0, 1) := by decide +kernel
theorem dX11_unfoldsFirst_102 : decode cX11_unfoldsFirst 102 = .ok (.getfield 170, 3) := by decide +kernel
theorem dX11_unfoldsFirst_105 : decode cX11_unfoldsFirst 105 = .ok (.ifCond .le 5, 3) := by decide +kernel
theorem dX11_unfoldsFirst_108 : decode cX11_unfoldsFirst 108 = .ok (.iconst 0, 1) := by decide +kernel
theorem dX11_unfoldsFirst_109 : decode cX11_unfoldsFirst 109 = .ok (.ireturn, 1) := by decide +kernel
theorem dX11_unfoldsFirst_110 : decode cX11_unfoldsFirst 110 = .ok (.iload_n 1, 1) := by decide +kernel
theorem dX11_unfoldsFirst_111 : decode cX11_unfoldsFirst 111 = .ok (.ifCond .ne 10, 3) := by decide +kernel
theorem dX11_unfoldsFirst_114 : decode cX11_unfoldsFirst 114 = .ok (.iload 6, 2) := by decide +kernel
theorem dX11_unfoldsFirst_116 : decode cX11_unfoldsFirst 116 = .ok (.iconst 4, 1) := by decide +kernel
theorem dX11_unfoldsFirst_117 : decode cX11_unfoldsFirst 117 = .ok (.ishr, 1) := by decide +kernel
theorem dX11_unfoldsFirst_118 : decode cX11_unfoldsFirst 118 = .ok (.ifCond .ne 16, 3) := by decide +kernel
theorem dX11_unfoldsFirst_121 : decode cX11_unfoldsFirst 121 = .ok (.iload_n 1, 1) := by decide +kernel
theorem dX11_unfoldsFirst_122 : decode cX11_unfoldsFirst 122 = .ok (.iconst 1, 1) := by decide +kernel
theorem dX11_unfoldsFirst_123 : decode cX11_unfoldsFirst 123 = .ok (.if_icmp .ne 18, 3) := by decide +kernel
theorem dX11_unfoldsFirst_126 : decode cX11_unfoldsFirst 126 = .ok (.iload 5, 2) := by decide +kernel
theorem dX11_unfoldsFirst_128 : decode cX11_unfoldsFirst 128 = .ok (.bipush 48, 2) := by decide +kernel
theorem dX11_unfoldsFirst_130 : decode cX11_unfoldsFirst 130 = .ok (.iand, 1) := by decide +kernel
theorem dX11_unfoldsFirst_131 : decode cX11_unfoldsFirst 131 = .ok (.ifCond .eq 10, 3) := by decide +kernel
theorem dX11_unfoldsFirst_134 : decode cX11_unfoldsFirst 134 = .ok (.aload_n 0, 1) := by decide +kernel
theorem dX11_unfoldsFirst_135 : decode cX11_unfoldsFirst 135 = .ok (.iconst 5, 1) := by decide +kernel
theorem dX11_unfoldsFirst_136 : decode cX11_unfoldsFirst 136 = .ok (.iload_n 2, 1) := by decide +kernel
theorem dX11_unfoldsFirst_137 : decode cX11_unfoldsFirst 137 = .ok (.invokevirtual 182, 3) := by decide +kernel
theorem dX11_unfoldsFirst_140 : decode cX11_unfoldsFirst 140 = .ok (.ireturn, 1) := by decide +kernel
theorem dX11_unfoldsFirst_141 : decode cX11_unfoldsFirst 141 = .ok (.iload 6, 2) := by decide +kernel
theorem dX11_unfoldsFirst_143 : decode cX11_unfoldsFirst 143 = .ok (.bipush 16, 2) := by decide +kernel
theorem dX11_unfoldsFirst_145 : decode cX11_unfoldsFirst 145 = .ok (.ishl, 1) := by decide +kernel
theorem dX11_unfoldsFirst_146 : decode cX11_unfoldsFirst 146 = .ok (.iload 7, 2) := by decide +kernel
theorem dX11_unfoldsFirst_148 : decode cX11_unfoldsFirst 148 = .ok (.bipush 8, 2) := by decide +kernel
theorem dX11_unfoldsFirst_150 : decode cX11_unfoldsFirst 150 = .ok (.ishl, 1) := by decide +kernel
theorem dX11_unfoldsFirst_151 : decode cX11_unfoldsFirst 151 = .ok (.ior, 1) := by decide +kernel
theorem dX11_unfoldsFirst_152 : decode cX11_unfoldsFirst 152 = .ok (.iload 8, 2) := by decide +kernel
theorem dX11_unfoldsFirst_154 : decode cX11_unfoldsFirst 154 = .ok (.ior, 1) := by decide +kernel
theorem dX11_unfoldsFirst_155 : decode cX11_unfoldsFirst 155 = .ok (.istore 4, 2) := by decide +kernel
theorem dX11_unfoldsFirst_157 : decode cX11_unfoldsFirst 157 = .ok (.aload_n 0, 1) := by decide +kernel
theorem dX11_unfoldsFirst_158 : decode cX11_unfoldsFirst 158 = .ok (.iconst 0, 1) := by decide +kernel
theorem dX11_unfoldsFirst_159 : decode cX11_unfoldsFirst 159 = .ok (.bipush 96, 2) := by decide +kernel
theorem dX11_unfoldsFirst_161 : decode cX11_unfoldsFirst 161 = .ok (.iload_n 3, 1) := by decide +kernel
theorem dX11_unfoldsFirst_162 : decode cX11_unfoldsFirst 162 = .ok (.iconst 4, 1) := by decide +kernel
theorem dX11_unfoldsFirst_163 : decode cX11_unfoldsFirst 163 = .ok (.ishr, 1) := by decide +kernel
theorem dX11_unfoldsFirst_164 : decode cX11_unfoldsFirst 164 = .ok (.ior, 1) := by decide +kernel
theorem dX11_unfoldsFirst_165 : decode cX11_unfoldsFirst 165 = .ok (.invokevirtual 185, 3) := by decide +kernel
theorem dX11_unfoldsFirst_168 : decode cX11_unfoldsFirst 168 = .ok (.aload_n 0, 1) := by decide +kernel
theorem dX11_unfoldsFirst_169 : decode cX11_unfoldsFirst 169 = .ok (.iconst 1, 1) := by decide +kernel
theorem dX11_unfoldsFirst_170 : decode cX11_unfoldsFirst 170 = .ok (.iload_n 3, 1) := by decide +kernel
theorem dX11_unfoldsFirst_171 : decode cX11_unfoldsFirst 171 = .ok (.bipush 15, 2) := by decide +kernel
theorem dX11_unfoldsFirst_173 : decode cX11_unfoldsFirst 173 = .ok (.iand, 1) := by decide +kernel
theorem dX11_unfoldsFirst_174 : decode cX11_unfoldsFirst 174 = .ok (.iconst 4, 1) := by decide +kernel
theorem dX11_unfoldsFirst_175 : decode cX11_unfoldsFirst 175 = .ok (.ishl, 1) := by decide +kernel
theorem dX11_unfoldsFirst_176 : decode cX11_unfoldsFirst 176 = .ok (.iload 4, 2) := by decide +kernel
theorem dX11_unfoldsFirst_178 : decode cX11_unfoldsFirst 178 = .ok (.bipush 16, 2) := by decide +kernel
theorem dX11_unfoldsFirst_180 : decode cX11_unfoldsFirst 180 = .ok (.ishr, 1) := by decide +kernel
theorem dX11_unfoldsFirst_181 : decode cX11_unfoldsFirst 181 = .ok (.ior, 1) := by decide +kernel
theorem dX11_unfoldsFirst_182 : decode cX11_unfoldsFirst 182 = .ok (.invokevirtual 185, 3) := by decide +kernel
theorem dX11_unfoldsFirst_185 : decode cX11_unfoldsFirst 185 = .ok (.aload_n 0, 1) := by decide +kernel
theorem dX11_unfoldsFirst_186 : decode cX11_unfoldsFirst 186 = .ok (.iconst 2, 1) := by decide +kernel
theorem dX11_unfoldsFirst_187 : decode cX11_unfoldsFirst 187 = .ok (.iload 4, 2) := by decide +kernel
theorem dX11_unfoldsFirst_189 : decode cX11_unfoldsFirst 189 = .ok (.bipush 8, 2) := by decide +kernel
theorem dX11_unfoldsFirst_191 : decode cX11_unfoldsFirst 191 = .ok (.ishr, 1) := by decide +kernel
theorem dX11_unfoldsFirst_192 : decode cX11_unfoldsFirst 192 = .ok (.invokevirtual 185, 3) := by decide +kernel
theorem dX11_unfoldsFirst_195 : decode cX11_unfoldsFirst 195 = .ok (.aload_n 0, 1) := by decide +kernel
theorem dX11_unfoldsFirst_196 : decode cX11_unfoldsFirst 196 = .ok (.iconst 3, 1) := by decide +kernel
theorem dX11_unfoldsFirst_197 : decode cX11_unfoldsFirst 197 = .ok (.iload 4, 2) := by decide +kernel
theorem dX11_unfoldsFirst_199 : decode cX11_unfoldsFirst 199 = .ok (.invokevirtual 185, 3) := by decide +kernel
theorem dX11_unfoldsFirst_202 : decode cX11_unfoldsFirst 202 = .ok (.iconst 1, 1) := by decide +kernel
theorem dX11_unfoldsFirst_203 : decode cX11_unfoldsFirst 203 = .ok (.ireturn, 1) := by decide +kernel
theorem dX11_unfoldSource_0 : decode cX11_unfoldSource 0 = .ok (.aload_n 0, 1) := by decide +kernel
theorem dX11_unfoldSource_1 : decode cX11_unfoldSource 1 = .ok (.getfield 107, 3) := by decide +kernel
theorem dX11_unfoldSource_4 : decode cX11_unfoldSource 4 = .ok (.ifCond .ne 42, 3) := by decide +kernel
theorem dX11_unfoldSource_7 : decode cX11_unfoldSource 7 = .ok (.iconst 0, 1) := by decide +kernel
theorem dX11_unfoldSource_8 : decode cX11_unfoldSource 8 = .ok (.istore_n 2, 1) := by decide +kernel
theorem dX11_unfoldSource_9 : decode cX11_unfoldSource 9 = .ok (.iload_n 2, 1) := by decide +kernel
theorem dX11_unfoldSource_10 : decode cX11_unfoldSource 10 = .ok (.bipush 16, 2) := by decide +kernel
theorem dX11_unfoldSource_12 : decode cX11_unfoldSource 12 = .ok (.if_icmp .ge 33, 3) := by decide +kernel
theorem dX11_unfoldSource_15 : decode cX11_unfoldSource 15 = .ok (.aload_n 0, 1) := by decide +kernel
theorem dX11_unfoldSource_16 : decode cX11_unfoldSource 16 = .ok (.bipush 8, 2) := by decide +kernel
theorem dX11_unfoldSource_18 : decode cX11_unfoldSource 18 = .ok (.iload_n 2, 1) := by decide +kernel
theorem dX11_unfoldSource_19 : decode cX11_unfoldSource 19 = .ok (.iadd, 1) := by decide +kernel
theorem dX11_unfoldSource_20 : decode cX11_unfoldSource 20 = .ok (.aload_n 0, 1) := by decide +kernel
theorem dX11_unfoldSource_21 : decode cX11_unfoldSource 21 = .ok (.getfield 104, 3) := by decide +kernel
theorem dX11_unfoldSource_24 : decode cX11_unfoldSource 24 = .ok (.iconst 1, 1) := by decide +kernel
theorem dX11_unfoldSource_25 : decode cX11_unfoldSource 25 = .ok (.if_icmp .ne 7, 3) := by decide +kernel
theorem dX11_unfoldSource_28 : decode cX11_unfoldSource 28 = .ok (.iconst 0, 1) := by decide +kernel
theorem dX11_unfoldSource_29 : decode cX11_unfoldSource 29 = .ok (.goto 7, 3) := by decide +kernel
theorem dX11_unfoldSource_32 : decode cX11_unfoldSource 32 = .ok (.aload_n 0, 1) := by decide +kernel
theorem dX11_unfoldSource_33 : decode cX11_unfoldSource 33 = .ok (.invokevirtual 188, 3) := by decide +kernel
theorem dX11_unfoldSource_36 : decode cX11_unfoldSource 36 = .ok (.invokevirtual 185, 3) := by decide +kernel
theorem dX11_unfoldSource_39 : decode cX11_unfoldSource 39 = .ok (.iinc 2 1, 3) := by decide +kernel
theorem dX11_unfoldSource_42 : decode cX11_unfoldSource 42 = .ok (.goto (-33), 3) := by decide +kernel
theorem dX11_unfoldSource_45 : decode cX11_unfoldSource 45 = .ok (.return_, 1) := by decide +kernel
theorem dX11_unfoldSource_46 : decode cX11_unfoldSource 46 = .ok (.aload_n 0, 1) := by decide +kernel
theorem dX11_unfoldSource_47 : decode cX11_unfoldSource 47 = .ok (.getfield 104, 3) := by decide +kernel
theorem dX11_unfoldSource_50 : decode cX11_unfoldSource 50 = .ok (.iconst 1, 1) := by decide +kernel
theorem dX11_unfoldSource_51 : decode cX11_unfoldSource 51 = .ok (.if_icmp .ne 13, 3) := by decide +kernel
theorem dX11_unfoldSource_54 : decode cX11_unfoldSource 54 = .ok (.aload_n 0, 1) := by decide +kernel
theorem dX11_unfoldSource_55 : decode cX11_unfoldSource 55 = .ok (.bipush 8, 2) := by decide +kernel
theorem dX11_unfoldSource_57 : decode cX11_unfoldSource 57 = .ok (.iload_n 1, 1) := by decide +kernel
theorem dX11_unfoldSource_58 : decode cX11_unfoldSource 58 = .ok (.invokevirtual 210, 3) := by decide +kernel
theorem dX11_unfoldSource_61 : decode cX11_unfoldSource 61 = .ok (.goto 9, 3) := by decide +kernel
theorem dX11_unfoldSource_64 : decode cX11_unfoldSource 64 = .ok (.aload_n 0, 1) := by decide +kernel
theorem dX11_unfoldSource_65 : decode cX11_unfoldSource 65 = .ok (.bipush 8, 2) := by decide +kernel
theorem dX11_unfoldSource_67 : decode cX11_unfoldSource 67 = .ok (.invokevirtual 213, 3) := by decide +kernel
theorem dX11_unfoldSource_70 : decode cX11_unfoldSource 70 = .ok (.aload_n 0, 1) := by decide +kernel
theorem dX11_unfoldSource_71 : decode cX11_unfoldSource 71 = .ok (.bipush 8, 2) := by decide +kernel
theorem dX11_unfoldSource_73 : decode cX11_unfoldSource 73 = .ok (.aload_n 0, 1) := by decide +kernel
theorem dX11_unfoldSource_74 : decode cX11_unfoldSource 74 = .ok (.getfield 107, 3) := by decide +kernel
theorem dX11_unfoldSource_77 : decode cX11_unfoldSource 77 = .ok (.iconst 0, 1) := by decide +kernel
theorem dX11_unfoldSource_78 : decode cX11_unfoldSource 78 = .ok (.invokevirtual 216, 3) := by decide +kernel
theorem dX11_unfoldSource_81 : decode cX11_unfoldSource 81 = .ok (.return_, 1) := by decide +kernel
theorem dX11_unfoldGoal_0 : decode cX11_unfoldGoal 0 = .ok (.aload_n 0, 1) := by decide +kernel
theorem dX11_unfoldGoal_1 : decode cX11_unfoldGoal 1 = .ok (.getfield 125, 3) := by decide +kernel
theorem dX11_unfoldGoal_4 : decode cX11_unfoldGoal 4 = .ok (.ifCond .ne 48, 3) := by decide +kernel
theorem dX11_unfoldGoal_7 : decode cX11_unfoldGoal 7 = .ok (.aload_n 0, 1) := by decide +kernel
theorem dX11_unfoldGoal_8 : decode cX11_unfoldGoal 8 = .ok (.getfield 131, 3) := by decide +kernel
theorem dX11_unfoldGoal_11 : decode cX11_unfoldGoal 11 = .ok (.ifCond .le 41, 3) := by decide +kernel
theorem dX11_unfoldGoal_14 : decode cX11_unfoldGoal 14 = .ok (.aload_n 0, 1) := by decide +kernel
theorem dX11_unfoldGoal_15 : decode cX11_unfoldGoal 15 = .ok (.getfield 128, 3) := by decide +kernel
theorem dX11_unfoldGoal_18 : decode cX11_unfoldGoal 18 = .ok (.iconst 1, 1) := by decide +kernel
theorem dX11_unfoldGoal_19 : decode cX11_unfoldGoal 19 = .ok (.if_icmp .ne 13, 3) := by decide +kernel
theorem dX11_unfoldGoal_22 : decode cX11_unfoldGoal 22 = .ok (.aload_n 0, 1) := by decide +kernel
theorem dX11_unfoldGoal_23 : decode cX11_unfoldGoal 23 = .ok (.bipush 24, 2) := by decide +kernel
theorem dX11_unfoldGoal_25 : decode cX11_unfoldGoal 25 = .ok (.iload_n 1, 1) := by decide +kernel
theorem dX11_unfoldGoal_26 : decode cX11_unfoldGoal 26 = .ok (.invokevirtual 210, 3) := by decide +kernel
theorem dX11_unfoldGoal_29 : decode cX11_unfoldGoal 29 = .ok (.goto 9, 3) := by decide +kernel
theorem dX11_unfoldGoal_32 : decode cX11_unfoldGoal 32 = .ok (.aload_n 0, 1) := by decide +kernel
theorem dX11_unfoldGoal_33 : decode cX11_unfoldGoal 33 = .ok (.bipush 24, 2) := by decide +kernel
theorem dX11_unfoldGoal_35 : decode cX11_unfoldGoal 35 = .ok (.invokevirtual 213, 3) := by decide +kernel
theorem dX11_unfoldGoal_38 : decode cX11_unfoldGoal 38 = .ok (.aload_n 0, 1) := by decide +kernel
theorem dX11_unfoldGoal_39 : decode cX11_unfoldGoal 39 = .ok (.bipush 24, 2) := by decide +kernel
theorem dX11_unfoldGoal_41 : decode cX11_unfoldGoal 41 = .ok (.aload_n 0, 1) := by decide +kernel
theorem dX11_unfoldGoal_42 : decode cX11_unfoldGoal 42 = .ok (.getfield 131, 3) := by decide +kernel
theorem dX11_unfoldGoal_45 : decode cX11_unfoldGoal 45 = .ok (.iconst 1, 1) := by decide +kernel
theorem dX11_unfoldGoal_46 : decode cX11_unfoldGoal 46 = .ok (.invokevirtual 216, 3) := by decide +kernel
theorem dX11_unfoldGoal_49 : decode cX11_unfoldGoal 49 = .ok (.goto 120, 3) := by decide +kernel
theorem dX11_unfoldGoal_52 : decode cX11_unfoldGoal 52 = .ok (.aload_n 0, 1) := by decide +kernel
theorem dX11_unfoldGoal_53 : decode cX11_unfoldGoal 53 = .ok (.getfield 131, 3) := by decide +kernel
theorem dX11_unfoldGoal_56 : decode cX11_unfoldGoal 56 = .ok (.ifCond .ne 32, 3) := by decide +kernel
theorem dX11_unfoldGoal_59 : decode cX11_unfoldGoal 59 = .ok (.iconst 0, 1) := by decide +kernel
theorem dX11_unfoldGoal_60 : decode cX11_unfoldGoal 60 = .ok (.istore_n 2, 1) := by decide +kernel
theorem dX11_unfoldGoal_61 : decode cX11_unfoldGoal 61 = .ok (.iload_n 2, 1) := by decide +kernel
theorem dX11_unfoldGoal_62 : decode cX11_unfoldGoal 62 = .ok (.bipush 16, 2) := by decide +kernel
theorem dX11_unfoldGoal_64 : decode cX11_unfoldGoal 64 = .ok (.if_icmp .ge 21, 3) := by decide +kernel
theorem dX11_unfoldGoal_67 : decode cX11_unfoldGoal 67 = .ok (.aload_n 0, 1) := by decide +kernel
theorem dX11_unfoldGoal_68 : decode cX11_unfoldGoal 68 = .ok (.bipush 24, 2) := by decide +kernel
theorem dX11_unfoldGoal_70 : decode cX11_unfoldGoal 70 = .ok (.iload_n 2, 1) := by decide +kernel
theorem dX11_unfoldGoal_71 : decode cX11_unfoldGoal 71 = .ok (.iadd, 1) := by decide +kernel
theorem dX11_unfoldGoal_72 : decode cX11_unfoldGoal 72 = .ok (.aload_n 0, 1) := by decide +kernel
theorem dX11_unfoldGoal_73 : decode cX11_unfoldGoal 73 = .ok (.invokevirtual 188, 3) := by decide +kernel
theorem dX11_unfoldGoal_76 : decode cX11_unfoldGoal 76 = .ok (.invokevirtual 185, 3) := by decide +kernel
theorem dX11_unfoldGoal_79 : decode cX11_unfoldGoal 79 = .ok (.iinc 2 1, 3) := by decide +kernel
theorem dX11_unfoldGoal_82 : decode cX11_unfoldGoal 82 = .ok (.goto (-21), 3) := by decide +kernel
theorem dX11_unfoldGoal_85 : decode cX11_unfoldGoal 85 = .ok (.goto 84, 3) := by decide +kernel
theorem dX11_unfoldGoal_88 : decode cX11_unfoldGoal 88 = .ok (.aload_n 0, 1) := by decide +kernel
theorem dX11_unfoldGoal_89 : decode cX11_unfoldGoal 89 = .ok (.bipush 24, 2) := by decide +kernel
theorem dX11_unfoldGoal_91 : decode cX11_unfoldGoal 91 = .ok (.sipush 255, 3) := by decide +kernel
theorem dX11_unfoldGoal_94 : decode cX11_unfoldGoal 94 = .ok (.invokevirtual 185, 3) := by decide +kernel
theorem dX11_unfoldGoal_97 : decode cX11_unfoldGoal 97 = .ok (.aload_n 0, 1) := by decide +kernel
theorem dX11_unfoldGoal_98 : decode cX11_unfoldGoal 98 = .ok (.bipush 25, 2) := by decide +kernel
theorem dX11_unfoldGoal_100 : decode cX11_unfoldGoal 100 = .ok (.aload_n 0, 1) := by decide +kernel
theorem dX11_unfoldGoal_101 : decode cX11_unfoldGoal 101 = .ok (.getfield 131, 3) := by decide +kernel
theorem dX11_unfoldGoal_104 : decode cX11_unfoldGoal 104 = .ok (.iconst 3, 1) := by decide +kernel
theorem dX11_unfoldGoal_105 : decode cX11_unfoldGoal 105 = .ok (.if_icmp .ne 7, 3) := by decide +kernel
theorem dX11_unfoldGoal_108 : decode cX11_unfoldGoal 108 = .ok (.iconst 2, 1) := by decide +kernel
theorem dX11_unfoldGoal_109 : decode cX11_unfoldGoal 109 = .ok (.goto 7, 3) := by decide +kernel
theorem dX11_unfoldGoal_112 : decode cX11_unfoldGoal 112 = .ok (.aload_n 0, 1) := by decide +kernel
theorem dX11_unfoldGoal_113 : decode cX11_unfoldGoal 113 = .ok (.invokevirtual 188, 3) := by decide +kernel
theorem dX11_unfoldGoal_116 : decode cX11_unfoldGoal 116 = .ok (.invokevirtual 185, 3) := by decide +kernel
theorem dX11_unfoldGoal_119 : decode cX11_unfoldGoal 119 = .ok (.aload_n 0, 1) := by decide +kernel
theorem dX11_unfoldGoal_120 : decode cX11_unfoldGoal 120 = .ok (.getfield 131, 3) := by decide +kernel
theorem dX11_unfoldGoal_123 : decode cX11_unfoldGoal 123 = .ok (.iconst 1, 1) := by decide +kernel
theorem dX11_unfoldGoal_124 : decode cX11_unfoldGoal 124 = .ok (.if_icmp .ne 8, 3) := by decide +kernel
theorem dX11_unfoldGoal_127 : decode cX11_unfoldGoal 127 = .ok (.bipush 35, 2) := by decide +kernel
theorem dX11_unfoldGoal_129 : decode cX11_unfoldGoal 129 = .ok (.goto 18, 3) := by decide +kernel
theorem dX11_unfoldGoal_132 : decode cX11_unfoldGoal 132 = .ok (.aload_n 0, 1) := by decide +kernel
theorem dX11_unfoldGoal_133 : decode cX11_unfoldGoal 133 = .ok (.getfield 131, 3) := by decide +kernel
theorem dX11_unfoldGoal_136 : decode cX11_unfoldGoal 136 = .ok (.iconst 2, 1) := by decide +kernel
theorem dX11_unfoldGoal_137 : decode cX11_unfoldGoal 137 = .ok (.if_icmp .ne 8, 3) := by decide +kernel
theorem dX11_unfoldGoal_140 : decode cX11_unfoldGoal 140 = .ok (.bipush 37, 2) := by decide +kernel
theorem dX11_unfoldGoal_142 : decode cX11_unfoldGoal 142 = .ok (.goto 5, 3) := by decide +kernel
theorem dX11_unfoldGoal_145 : decode cX11_unfoldGoal 145 = .ok (.bipush 39, 2) := by decide +kernel
theorem dX11_unfoldGoal_147 : decode cX11_unfoldGoal 147 = .ok (.istore_n 2, 1) := by decide +kernel
theorem dX11_unfoldGoal_148 : decode cX11_unfoldGoal 148 = .ok (.iload_n 2, 1) := by decide +kernel
theorem dX11_unfoldGoal_149 : decode cX11_unfoldGoal 149 = .ok (.bipush 40, 2) := by decide +kernel
theorem dX11_unfoldGoal_151 : decode cX11_unfoldGoal 151 = .ok (.if_icmp .ge 18, 3) := by decide +kernel
theorem dX11_unfoldGoal_154 : decode cX11_unfoldGoal 154 = .ok (.aload_n 0, 1) := by decide +kernel
theorem dX11_unfoldGoal_155 : decode cX11_unfoldGoal 155 = .ok (.iload_n 2, 1) := by decide +kernel
theorem dX11_unfoldGoal_156 : decode cX11_unfoldGoal 156 = .ok (.aload_n 0, 1) := by decide +kernel
theorem dX11_unfoldGoal_157 : decode cX11_unfoldGoal 157 = .ok (.invokevirtual 188, 3) := by decide +kernel
theorem dX11_unfoldGoal_160 : decode cX11_unfoldGoal 160 = .ok (.invokevirtual 185, 3) := by decide +kernel
theorem dX11_unfoldGoal_163 : decode cX11_unfoldGoal 163 = .ok (.iinc 2 1, 3) := by decide +kernel
theorem dX11_unfoldGoal_166 : decode cX11_unfoldGoal 166 = .ok (.goto (-18), 3) := by decide +kernel
theorem dX11_unfoldGoal_169 : decode cX11_unfoldGoal 169 = .ok (.return_, 1) := by decide +kernel
theorem dX11_unfoldPorts_0 : decode cX11_unfoldPorts 0 = .ok (.iload_n 1, 1) := by decide +kernel
theorem dX11_unfoldPorts_1 : decode cX11_unfoldPorts 1 = .ok (.iconst 3, 1) := by decide +kernel
theorem dX11_unfoldPorts_2 : decode cX11_unfoldPorts 2 = .ok (.if_icmp .ne 56, 3) := by decide +kernel
theorem dX11_unfoldPorts_5 : decode cX11_unfoldPorts 5 = .ok (.aload_n 0, 1) := by decide +kernel
theorem dX11_unfoldPorts_6 : decode cX11_unfoldPorts 6 = .ok (.invokevirtual 188, 3) := by decide +kernel
theorem dX11_unfoldPorts_9 : decode cX11_unfoldPorts 9 = .ok (.istore_n 2, 1) := by decide +kernel
theorem dX11_unfoldPorts_10 : decode cX11_unfoldPorts 10 = .ok (.aload_n 0, 1) := by decide +kernel
theorem dX11_unfoldPorts_11 : decode cX11_unfoldPorts 11 = .ok (.bipush 40, 2) := by decide +kernel
theorem dX11_unfoldPorts_13 : decode cX11_unfoldPorts 13 = .ok (.sipush 240, 3) := by decide +kernel
theorem dX11_unfoldPorts_16 : decode cX11_unfoldPorts 16 = .ok (.invokevirtual 185, 3) := by decide +kernel
theorem dX11_unfoldPorts_19 : decode cX11_unfoldPorts 19 = .ok (.aload_n 0, 1) := by decide +kernel
theorem dX11_unfoldPorts_20 : decode cX11_unfoldPorts 20 = .ok (.bipush 41, 2) := by decide +kernel
theorem dX11_unfoldPorts_22 : decode cX11_unfoldPorts 22 = .ok (.sipush 176, 3) := by decide +kernel
theorem dX11_unfoldPorts_25 : decode cX11_unfoldPorts 25 = .ok (.iload_n 2, 1) := by decide +kernel
theorem dX11_unfoldPorts_26 : decode cX11_unfoldPorts 26 = .ok (.iconst 4, 1) := by decide +kernel
theorem dX11_unfoldPorts_27 : decode cX11_unfoldPorts 27 = .ok (.ishr, 1) := by decide +kernel
theorem dX11_unfoldPorts_28 : decode cX11_unfoldPorts 28 = .ok (.ior, 1) := by decide +kernel
theorem dX11_unfoldPorts_29 : decode cX11_unfoldPorts 29 = .ok (.invokevirtual 185, 3) := by decide +kernel
theorem dX11_unfoldPorts_32 : decode cX11_unfoldPorts 32 = .ok (.aload_n 0, 1) := by decide +kernel
theorem dX11_unfoldPorts_33 : decode cX11_unfoldPorts 33 = .ok (.bipush 42, 2) := by decide +kernel
theorem dX11_unfoldPorts_35 : decode cX11_unfoldPorts 35 = .ok (.sipush 240, 3) := by decide +kernel
theorem dX11_unfoldPorts_38 : decode cX11_unfoldPorts 38 = .ok (.invokevirtual 185, 3) := by decide +kernel
theorem dX11_unfoldPorts_41 : decode cX11_unfoldPorts 41 = .ok (.aload_n 0, 1) := by decide +kernel
theorem dX11_unfoldPorts_42 : decode cX11_unfoldPorts 42 = .ok (.bipush 43, 2) := by decide +kernel
theorem dX11_unfoldPorts_44 : decode cX11_unfoldPorts 44 = .ok (.sipush 176, 3) := by decide +kernel
theorem dX11_unfoldPorts_47 : decode cX11_unfoldPorts 47 = .ok (.iload_n 2, 1) := by decide +kernel
theorem dX11_unfoldPorts_48 : decode cX11_unfoldPorts 48 = .ok (.bipush 15, 2) := by decide +kernel
theorem dX11_unfoldPorts_50 : decode cX11_unfoldPorts 50 = .ok (.iand, 1) := by decide +kernel
theorem dX11_unfoldPorts_51 : decode cX11_unfoldPorts 51 = .ok (.ior, 1) := by decide +kernel
theorem dX11_unfoldPorts_52 : decode cX11_unfoldPorts 52 = .ok (.invokevirtual 185, 3) := by decide +kernel
theorem dX11_unfoldPorts_55 : decode cX11_unfoldPorts 55 = .ok (.goto 65, 3) := by decide +kernel
theorem dX11_unfoldPorts_58 : decode cX11_unfoldPorts 58 = .ok (.aload_n 0, 1) := by decide +kernel
theorem dX11_unfoldPorts_59 : decode cX11_unfoldPorts 59 = .ok (.bipush 40, 2) := by decide +kernel
theorem dX11_unfoldPorts_61 : decode cX11_unfoldPorts 61 = .ok (.iload_n 1, 1) := by decide +kernel
theorem dX11_unfoldPorts_62 : decode cX11_unfoldPorts 62 = .ok (.iconst 2, 1) := by decide +kernel
theorem dX11_unfoldPorts_63 : decode cX11_unfoldPorts 63 = .ok (.if_icmp .ne 9, 3) := by decide +kernel
theorem dX11_unfoldPorts_66 : decode cX11_unfoldPorts 66 = .ok (.sipush 240, 3) := by decide +kernel
theorem dX11_unfoldPorts_69 : decode cX11_unfoldPorts 69 = .ok (.goto 7, 3) := by decide +kernel
theorem dX11_unfoldPorts_72 : decode cX11_unfoldPorts 72 = .ok (.aload_n 0, 1) := by decide +kernel
theorem dX11_unfoldPorts_73 : decode cX11_unfoldPorts 73 = .ok (.invokevirtual 188, 3) := by decide +kernel
theorem dX11_unfoldPorts_76 : decode cX11_unfoldPorts 76 = .ok (.invokevirtual 185, 3) := by decide +kernel
theorem dX11_unfoldPorts_79 : decode cX11_unfoldPorts 79 = .ok (.aload_n 0, 1) := by decide +kernel
theorem dX11_unfoldPorts_80 : decode cX11_unfoldPorts 80 = .ok (.bipush 41, 2) := by decide +kernel
theorem dX11_unfoldPorts_82 : decode cX11_unfoldPorts 82 = .ok (.aload_n 0, 1) := by decide +kernel
theorem dX11_unfoldPorts_83 : decode cX11_unfoldPorts 83 = .ok (.invokevirtual 188, 3) := by decide +kernel
theorem dX11_unfoldPorts_86 : decode cX11_unfoldPorts 86 = .ok (.invokevirtual 185, 3) := by decide +kernel
theorem dX11_unfoldPorts_89 : decode cX11_unfoldPorts 89 = .ok (.aload_n 0, 1) := by decide +kernel
theorem dX11_unfoldPorts_90 : decode cX11_unfoldPorts 90 = .ok (.bipush 42, 2) := by decide +kernel
theorem dX11_unfoldPorts_92 : decode cX11_unfoldPorts 92 = .ok (.iload_n 1, 1) := by decide +kernel
theorem dX11_unfoldPorts_93 : decode cX11_unfoldPorts 93 = .ok (.iconst 1, 1) := by decide +kernel
theorem dX11_unfoldPorts_94 : decode cX11_unfoldPorts 94 = .ok (.if_icmp .ne 9, 3) := by decide +kernel
theorem dX11_unfoldPorts_97 : decode cX11_unfoldPorts 97 = .ok (.sipush 240, 3) := by decide +kernel
theorem dX11_unfoldPorts_100 : decode cX11_unfoldPorts 100 = .ok (.goto 7, 3) := by decide +kernel
theorem dX11_unfoldPorts_103 : decode cX11_unfoldPorts 103 = .ok (.aload_n 0, 1) := by decide +kernel
theorem dX11_unfoldPorts_104 : decode cX11_unfoldPorts 104 = .ok (.invokevirtual 188, 3) := by decide +kernel
theorem dX11_unfoldPorts_107 : decode cX11_unfoldPorts 107 = .ok (.invokevirtual 185, 3) := by decide +kernel
theorem dX11_unfoldPorts_110 : decode cX11_unfoldPorts 110 = .ok (.aload_n 0, 1) := by decide +kernel
theorem dX11_unfoldPorts_111 : decode cX11_unfoldPorts 111 = .ok (.bipush 43, 2) := by decide +kernel
theorem dX11_unfoldPorts_113 : decode cX11_unfoldPorts 113 = .ok (.aload_n 0, 1) := by decide +kernel
theorem dX11_unfoldPorts_114 : decode cX11_unfoldPorts 114 = .ok (.invokevirtual 188, 3) := by decide +kernel
theorem dX11_unfoldPorts_117 : decode cX11_unfoldPorts 117 = .ok (.invokevirtual 185, 3) := by decide +kernel
theorem dX11_unfoldPorts_120 : decode cX11_unfoldPorts 120 = .ok (.aload_n 0, 1) := by decide +kernel
theorem dX11_unfoldPorts_121 : decode cX11_unfoldPorts 121 = .ok (.bipush 46, 2) := by decide +kernel
theorem dX11_unfoldPorts_123 : decode cX11_unfoldPorts 123 = .ok (.aload_n 0, 1) := by decide +kernel
theorem dX11_unfoldPorts_124 : decode cX11_unfoldPorts 124 = .ok (.invokevirtual 188, 3) := by decide +kernel
theorem dX11_unfoldPorts_127 : decode cX11_unfoldPorts 127 = .ok (.invokevirtual 185, 3) := by decide +kernel
theorem dX11_unfoldPorts_130 : decode cX11_unfoldPorts 130 = .ok (.aload_n 0, 1) := by decide +kernel
theorem dX11_unfoldPorts_131 : decode cX11_unfoldPorts 131 = .ok (.bipush 47, 2) := by decide +kernel
theorem dX11_unfoldPorts_133 : decode cX11_unfoldPorts 133 = .ok (.aload_n 0, 1) := by decide +kernel
theorem dX11_unfoldPorts_134 : decode cX11_unfoldPorts 134 = .ok (.invokevirtual 188, 3) := by decide +kernel
theorem dX11_unfoldPorts_137 : decode cX11_unfoldPorts 137 = .ok (.invokevirtual 185, 3) := by decide +kernel
theorem dX11_unfoldPorts_140 : decode cX11_unfoldPorts 140 = .ok (.return_, 1) := by decide +kernel
theorem dX11_packetToOut_0 : decode cX11_packetToOut 0 = .ok (.iconst 0, 1) := by decide +kernel
theorem dX11_packetToOut_1 : decode cX11_packetToOut 1 = .ok (.istore_n 1, 1) := by decide +kernel
theorem dX11_packetToOut_2 : decode cX11_packetToOut 2 = .ok (.iload_n 1, 1) := by decide +kernel
theorem dX11_packetToOut_3 : decode cX11_packetToOut 3 = .ok (.aload_n 0, 1) := by decide +kernel
theorem dX11_packetToOut_4 : decode cX11_packetToOut 4 = .ok (.getfield 207, 3) := by decide +kernel
theorem dX11_packetToOut_7 : decode cX11_packetToOut 7 = .ok (.if_icmp .ge 21, 3) := by decide +kernel
theorem dX11_packetToOut_10 : decode cX11_packetToOut 10 = .ok (.aload_n 0, 1) := by decide +kernel
theorem dX11_packetToOut_11 : decode cX11_packetToOut 11 = .ok (.getfield 23, 3) := by decide +kernel
theorem dX11_packetToOut_14 : decode cX11_packetToOut 14 = .ok (.iload_n 1, 1) := by decide +kernel
theorem dX11_packetToOut_15 : decode cX11_packetToOut 15 = .ok (.aload_n 0, 1) := by decide +kernel
theorem dX11_packetToOut_16 : decode cX11_packetToOut 16 = .ok (.getfield 32, 3) := by decide +kernel
theorem dX11_packetToOut_19 : decode cX11_packetToOut 19 = .ok (.iload_n 1, 1) := by decide +kernel
theorem dX11_packetToOut_20 : decode cX11_packetToOut 20 = .ok (.iaload, 1) := by decide +kernel
theorem dX11_packetToOut_21 : decode cX11_packetToOut 21 = .ok (.iastore, 1) := by decide +kernel
theorem dX11_packetToOut_22 : decode cX11_packetToOut 22 = .ok (.iinc 1 1, 3) := by decide +kernel
theorem dX11_packetToOut_25 : decode cX11_packetToOut 25 = .ok (.goto (-23), 3) := by decide +kernel
theorem dX11_packetToOut_28 : decode cX11_packetToOut 28 = .ok (.aload_n 0, 1) := by decide +kernel
theorem dX11_packetToOut_29 : decode cX11_packetToOut 29 = .ok (.aload_n 0, 1) := by decide +kernel
theorem dX11_packetToOut_30 : decode cX11_packetToOut 30 = .ok (.getfield 207, 3) := by decide +kernel
theorem dX11_packetToOut_33 : decode cX11_packetToOut 33 = .ok (.putfield 91, 3) := by decide +kernel
theorem dX11_packetToOut_36 : decode cX11_packetToOut 36 = .ok (.return_, 1) := by decide +kernel
theorem dX11_unfold_0 : decode cX11_unfold 0 = .ok (.aload_n 0, 1) := by decide +kernel
theorem dX11_unfold_1 : decode cX11_unfold 1 = .ok (.aload_n 0, 1) := by decide +kernel
theorem dX11_unfold_2 : decode cX11_unfold 2 = .ok (.getfield 78, 3) := by decide +kernel
theorem dX11_unfold_5 : decode cX11_unfold 5 = .ok (.putfield 179, 3) := by decide +kernel
theorem dX11_unfold_8 : decode cX11_unfold 8 = .ok (.iconst 0, 1) := by decide +kernel
theorem dX11_unfold_9 : decode cX11_unfold 9 = .ok (.istore_n 1, 1) := by decide +kernel
theorem dX11_unfold_10 : decode cX11_unfold 10 = .ok (.iload_n 1, 1) := by decide +kernel
theorem dX11_unfold_11 : decode cX11_unfold 11 = .ok (.aload_n 0, 1) := by decide +kernel
theorem dX11_unfold_12 : decode cX11_unfold 12 = .ok (.getfield 78, 3) := by decide +kernel
theorem dX11_unfold_15 : decode cX11_unfold 15 = .ok (.if_icmp .ge 21, 3) := by decide +kernel
theorem dX11_unfold_18 : decode cX11_unfold 18 = .ok (.aload_n 0, 1) := by decide +kernel
theorem dX11_unfold_19 : decode cX11_unfold 19 = .ok (.getfield 29, 3) := by decide +kernel
theorem dX11_unfold_22 : decode cX11_unfold 22 = .ok (.iload_n 1, 1) := by decide +kernel
theorem dX11_unfold_23 : decode cX11_unfold 23 = .ok (.aload_n 0, 1) := by decide +kernel
theorem dX11_unfold_24 : decode cX11_unfold 24 = .ok (.getfield 20, 3) := by decide +kernel
theorem dX11_unfold_27 : decode cX11_unfold 27 = .ok (.iload_n 1, 1) := by decide +kernel
theorem dX11_unfold_28 : decode cX11_unfold 28 = .ok (.iaload, 1) := by decide +kernel
theorem dX11_unfold_29 : decode cX11_unfold 29 = .ok (.iastore, 1) := by decide +kernel
theorem dX11_unfold_30 : decode cX11_unfold 30 = .ok (.iinc 1 1, 3) := by decide +kernel
theorem dX11_unfold_33 : decode cX11_unfold 33 = .ok (.goto (-23), 3) := by decide +kernel
theorem dX11_unfold_36 : decode cX11_unfold 36 = .ok (.aload_n 0, 1) := by decide +kernel
theorem dX11_unfold_37 : decode cX11_unfold 37 = .ok (.iconst (-1), 1) := by decide +kernel
theorem dX11_unfold_38 : decode cX11_unfold 38 = .ok (.invokevirtual 220, 3) := by decide +kernel
theorem dX11_unfold_41 : decode cX11_unfold 41 = .ok (.istore_n 1, 1) := by decide +kernel
theorem dX11_unfold_42 : decode cX11_unfold 42 = .ok (.aload_n 0, 1) := by decide +kernel
theorem dX11_unfold_43 : decode cX11_unfold 43 = .ok (.iconst 1, 1) := by decide +kernel
theorem dX11_unfold_44 : decode cX11_unfold 44 = .ok (.putfield 223, 3) := by decide +kernel
theorem dX11_unfold_47 : decode cX11_unfold 47 = .ok (.aload_n 0, 1) := by decide +kernel
theorem dX11_unfold_48 : decode cX11_unfold 48 = .ok (.aload_n 0, 1) := by decide +kernel
theorem dX11_unfold_49 : decode cX11_unfold 49 = .ok (.getfield 170, 3) := by decide +kernel
theorem dX11_unfold_52 : decode cX11_unfold 52 = .ok (.putfield 227, 3) := by decide +kernel
theorem dX11_unfold_55 : decode cX11_unfold 55 = .ok (.aload_n 0, 1) := by decide +kernel
theorem dX11_unfold_56 : decode cX11_unfold 56 = .ok (.aload_n 0, 1) := by decide +kernel
theorem dX11_unfold_57 : decode cX11_unfold 57 = .ok (.getfield 173, 3) := by decide +kernel
theorem dX11_unfold_60 : decode cX11_unfold 60 = .ok (.putfield 230, 3) := by decide +kernel
theorem dX11_unfold_63 : decode cX11_unfold 63 = .ok (.iconst 2, 1) := by decide +kernel
theorem dX11_unfold_64 : decode cX11_unfold 64 = .ok (.istore_n 2, 1) := by decide +kernel
theorem dX11_unfold_65 : decode cX11_unfold 65 = .ok (.iload_n 2, 1) := by decide +kernel
theorem dX11_unfold_66 : decode cX11_unfold 66 = .ok (.bipush 8, 2) := by decide +kernel
theorem dX11_unfold_68 : decode cX11_unfold 68 = .ok (.if_icmp .ge 29, 3) := by decide +kernel
theorem dX11_unfold_71 : decode cX11_unfold 71 = .ok (.aload_n 0, 1) := by decide +kernel
theorem dX11_unfold_72 : decode cX11_unfold 72 = .ok (.getfield 38, 3) := by decide +kernel
theorem dX11_unfold_75 : decode cX11_unfold 75 = .ok (.iload_n 2, 1) := by decide +kernel
theorem dX11_unfold_76 : decode cX11_unfold 76 = .ok (.iload_n 1, 1) := by decide +kernel
theorem dX11_unfold_77 : decode cX11_unfold 77 = .ok (.ifCond .eq 12, 3) := by decide +kernel
theorem dX11_unfold_80 : decode cX11_unfold 80 = .ok (.aload_n 0, 1) := by decide +kernel
theorem dX11_unfold_81 : decode cX11_unfold 81 = .ok (.getfield 35, 3) := by decide +kernel
theorem dX11_unfold_84 : decode cX11_unfold 84 = .ok (.iload_n 2, 1) := by decide +kernel
theorem dX11_unfold_85 : decode cX11_unfold 85 = .ok (.iaload, 1) := by decide +kernel
theorem dX11_unfold_86 : decode cX11_unfold 86 = .ok (.goto 4, 3) := by decide +kernel
theorem dX11_unfold_89 : decode cX11_unfold 89 = .ok (.iconst 0, 1) := by decide +kernel
theorem dX11_unfold_90 : decode cX11_unfold 90 = .ok (.iastore, 1) := by decide +kernel
theorem dX11_unfold_91 : decode cX11_unfold 91 = .ok (.iinc 2 1, 3) := by decide +kernel
theorem dX11_unfold_94 : decode cX11_unfold 94 = .ok (.goto (-29), 3) := by decide +kernel
theorem dX11_unfold_97 : decode cX11_unfold 97 = .ok (.iload_n 1, 1) := by decide +kernel
theorem dX11_unfold_98 : decode cX11_unfold 98 = .ok (.ifCond .ne 11, 3) := by decide +kernel
theorem dX11_unfold_101 : decode cX11_unfold 101 = .ok (.bipush (-10), 2) := by decide +kernel
theorem dX11_unfold_103 : decode cX11_unfold 103 = .ok (.aload_n 0, 1) := by decide +kernel
theorem dX11_unfold_104 : decode cX11_unfold 104 = .ok (.getfield 170, 3) := by decide +kernel
theorem dX11_unfold_107 : decode cX11_unfold 107 = .ok (.isub, 1) := by decide +kernel
theorem dX11_unfold_108 : decode cX11_unfold 108 = .ok (.ireturn, 1) := by decide +kernel
theorem dX11_unfold_109 : decode cX11_unfold 109 = .ok (.aload_n 0, 1) := by decide +kernel
theorem dX11_unfold_110 : decode cX11_unfold 110 = .ok (.invokevirtual 233, 3) := by decide +kernel
theorem dX11_unfold_113 : decode cX11_unfold 113 = .ok (.aload_n 0, 1) := by decide +kernel
theorem dX11_unfold_114 : decode cX11_unfold 114 = .ok (.getfield 91, 3) := by decide +kernel
theorem dX11_unfold_117 : decode cX11_unfold 117 = .ok (.ireturn, 1) := by decide +kernel
theorem dX11_told_0 : decode cX11_told 0 = .ok (.iload_n 1, 1) := by decide +kernel
theorem dX11_told_1 : decode cX11_told 1 = .ok (.iconst 0, 1) := by decide +kernel
theorem dX11_told_2 : decode cX11_told 2 = .ok (.bipush 7, 2) := by decide +kernel
theorem dX11_told_4 : decode cX11_told 4 = .ok (.invokestatic 72, 3) := by decide +kernel
theorem dX11_told_7 : decode cX11_told 7 = .ok (.ifCond .ne 5, 3) := by decide +kernel
theorem dX11_told_10 : decode cX11_told 10 = .ok (.iconst (-1), 1) := by decide +kernel
theorem dX11_told_11 : decode cX11_told 11 = .ok (.ireturn, 1) := by decide +kernel
theorem dX11_told_12 : decode cX11_told 12 = .ok (.iload_n 1, 1) := by decide +kernel
theorem dX11_told_13 : decode cX11_told 13 = .ok (.ifCond .ne 10, 3) := by decide +kernel
theorem dX11_told_16 : decode cX11_told 16 = .ok (.aload_n 0, 1) := by decide +kernel
theorem dX11_told_17 : decode cX11_told 17 = .ok (.getfield 227, 3) := by decide +kernel
theorem dX11_told_20 : decode cX11_told 20 = .ok (.goto 21, 3) := by decide +kernel
theorem dX11_told_23 : decode cX11_told 23 = .ok (.iload_n 1, 1) := by decide +kernel
theorem dX11_told_24 : decode cX11_told 24 = .ok (.iconst 1, 1) := by decide +kernel
theorem dX11_told_25 : decode cX11_told 25 = .ok (.if_icmp .ne 10, 3) := by decide +kernel
theorem dX11_told_28 : decode cX11_told 28 = .ok (.aload_n 0, 1) := by decide +kernel
theorem dX11_told_29 : decode cX11_told 29 = .ok (.getfield 230, 3) := by decide +kernel
theorem dX11_told_32 : decode cX11_told 32 = .ok (.goto 9, 3) := by decide +kernel
theorem dX11_told_35 : decode cX11_told 35 = .ok (.aload_n 0, 1) := by decide +kernel
theorem dX11_told_36 : decode cX11_told 36 = .ok (.getfield 38, 3) := by decide +kernel
theorem dX11_told_39 : decode cX11_told 39 = .ok (.iload_n 1, 1) := by decide +kernel
theorem dX11_told_40 : decode cX11_told 40 = .ok (.iaload, 1) := by decide +kernel
theorem dX11_told_41 : decode cX11_told 41 = .ok (.ireturn, 1) := by decide +kernel
theorem dX11_addTo_0 : decode cX11_addTo 0 = .ok (.aload_n 0, 1) := by decide +kernel
theorem dX11_addTo_1 : decode cX11_addTo 1 = .ok (.getfield 41, 3) := by decide +kernel
theorem dX11_addTo_4 : decode cX11_addTo 4 = .ok (.bipush 120, 2) := by decide +kernel
theorem dX11_addTo_6 : decode cX11_addTo 6 = .ok (.iload_n 1, 1) := by decide +kernel
theorem dX11_addTo_7 : decode cX11_addTo 7 = .ok (.imul, 1) := by decide +kernel
theorem dX11_addTo_8 : decode cX11_addTo 8 = .ok (.aload_n 0, 1) := by decide +kernel
theorem dX11_addTo_9 : decode cX11_addTo 9 = .ok (.getfield 44, 3) := by decide +kernel
theorem dX11_addTo_12 : decode cX11_addTo 12 = .ok (.iload_n 1, 1) := by decide +kernel
theorem dX11_addTo_13 : decode cX11_addTo 13 = .ok (.iaload, 1) := by decide +kernel
theorem dX11_addTo_14 : decode cX11_addTo 14 = .ok (.iadd, 1) := by decide +kernel
theorem dX11_addTo_15 : decode cX11_addTo 15 = .ok (.iload_n 2, 1) := by decide +kernel
theorem dX11_addTo_16 : decode cX11_addTo 16 = .ok (.sipush 255, 3) := by decide +kernel
theorem dX11_addTo_19 : decode cX11_addTo 19 = .ok (.iand, 1) := by decide +kernel
theorem dX11_addTo_20 : decode cX11_addTo 20 = .ok (.iastore, 1) := by decide +kernel
theorem dX11_addTo_21 : decode cX11_addTo 21 = .ok (.aload_n 0, 1) := by decide +kernel
theorem dX11_addTo_22 : decode cX11_addTo 22 = .ok (.getfield 44, 3) := by decide +kernel
theorem dX11_addTo_25 : decode cX11_addTo 25 = .ok (.iload_n 1, 1) := by decide +kernel
theorem dX11_addTo_26 : decode cX11_addTo 26 = .ok (.dup2, 1) := by decide +kernel
theorem dX11_addTo_27 : decode cX11_addTo 27 = .ok (.iaload, 1) := by decide +kernel
theorem dX11_addTo_28 : decode cX11_addTo 28 = .ok (.iconst 1, 1) := by decide +kernel
theorem dX11_addTo_29 : decode cX11_addTo 29 = .ok (.iadd, 1) := by decide +kernel
theorem dX11_addTo_30 : decode cX11_addTo 30 = .ok (.iastore, 1) := by decide +kernel
theorem dX11_addTo_31 : decode cX11_addTo 31 = .ok (.return_, 1) := by decide +kernel
theorem dX11_begin_0 : decode cX11_begin 0 = .ok (.aload_n 0, 1) := by decide +kernel
theorem dX11_begin_1 : decode cX11_begin 1 = .ok (.getfield 44, 3) := by decide +kernel
theorem dX11_begin_4 : decode cX11_begin 4 = .ok (.iload_n 1, 1) := by decide +kernel
theorem dX11_begin_5 : decode cX11_begin 5 = .ok (.iconst 0, 1) := by decide +kernel
theorem dX11_begin_6 : decode cX11_begin 6 = .ok (.iastore, 1) := by decide +kernel
theorem dX11_begin_7 : decode cX11_begin 7 = .ok (.aload_n 0, 1) := by decide +kernel
theorem dX11_begin_8 : decode cX11_begin 8 = .ok (.iload_n 1, 1) := by decide +kernel
theorem dX11_begin_9 : decode cX11_begin 9 = .ok (.iload_n 2, 1) := by decide +kernel
theorem dX11_begin_10 : decode cX11_begin 10 = .ok (.iload_n 3, 1) := by decide +kernel
theorem dX11_begin_11 : decode cX11_begin 11 = .ok (.bipush 8, 2) := by decide +kernel
theorem dX11_begin_13 : decode cX11_begin 13 = .ok (.ishr, 1) := by decide +kernel
theorem dX11_begin_14 : decode cX11_begin 14 = .ok (.iadd, 1) := by decide +kernel
theorem dX11_begin_15 : decode cX11_begin 15 = .ok (.invokevirtual 236, 3) := by decide +kernel
theorem dX11_begin_18 : decode cX11_begin 18 = .ok (.aload_n 0, 1) := by decide +kernel
theorem dX11_begin_19 : decode cX11_begin 19 = .ok (.iload_n 1, 1) := by decide +kernel
theorem dX11_begin_20 : decode cX11_begin 20 = .ok (.iload_n 3, 1) := by decide +kernel
theorem dX11_begin_21 : decode cX11_begin 21 = .ok (.invokevirtual 236, 3) := by decide +kernel
theorem dX11_begin_24 : decode cX11_begin 24 = .ok (.aload_n 0, 1) := by decide +kernel
theorem dX11_begin_25 : decode cX11_begin 25 = .ok (.iload_n 1, 1) := by decide +kernel
theorem dX11_begin_26 : decode cX11_begin 26 = .ok (.iload 4, 2) := by decide +kernel
theorem dX11_begin_28 : decode cX11_begin 28 = .ok (.bipush 8, 2) := by decide +kernel
theorem dX11_begin_30 : decode cX11_begin 30 = .ok (.ishr, 1) := by decide +kernel
theorem dX11_begin_31 : decode cX11_begin 31 = .ok (.invokevirtual 236, 3) := by decide +kernel
theorem dX11_begin_34 : decode cX11_begin 34 = .ok (.aload_n 0, 1) := by decide +kernel
theorem dX11_begin_35 : decode cX11_begin 35 = .ok (.iload_n 1, 1) := by decide +kernel
theorem dX11_begin_36 : decode cX11_begin 36 = .ok (.iload 4, 2) := by decide +kernel
theorem dX11_begin_38 : decode cX11_begin 38 = .ok (.invokevirtual 236, 3) := by decide +kernel
theorem dX11_begin_41 : decode cX11_begin 41 = .ok (.return_, 1) := by decide +kernel
theorem dX11_slice_0 : decode cX11_slice 0 = .ok (.iload_n 1, 1) := by decide +kernel
theorem dX11_slice_1 : decode cX11_slice 1 = .ok (.bipush 40, 2) := by decide +kernel
theorem dX11_slice_3 : decode cX11_slice 3 = .ok (.bipush 120, 2) := by decide +kernel
theorem dX11_slice_5 : decode cX11_slice 5 = .ok (.invokestatic 72, 3) := by decide +kernel
theorem dX11_slice_8 : decode cX11_slice 8 = .ok (.ifCond .eq 13, 3) := by decide +kernel
theorem dX11_slice_11 : decode cX11_slice 11 = .ok (.iload_n 2, 1) := by decide +kernel
theorem dX11_slice_12 : decode cX11_slice 12 = .ok (.iconst 0, 1) := by decide +kernel
theorem dX11_slice_13 : decode cX11_slice 13 = .ok (.ldc 239, 2) := by decide +kernel
theorem dX11_slice_15 : decode cX11_slice 15 = .ok (.invokestatic 72, 3) := by decide +kernel
theorem dX11_slice_18 : decode cX11_slice 18 = .ok (.ifCond .ne 5, 3) := by decide +kernel
theorem dX11_slice_21 : decode cX11_slice 21 = .ok (.iconst (-1), 1) := by decide +kernel
theorem dX11_slice_22 : decode cX11_slice 22 = .ok (.ireturn, 1) := by decide +kernel
theorem dX11_slice_23 : decode cX11_slice 23 = .ok (.aload_n 0, 1) := by decide +kernel
theorem dX11_slice_24 : decode cX11_slice 24 = .ok (.invokevirtual 160, 3) := by decide +kernel
theorem dX11_slice_27 : decode cX11_slice 27 = .ok (.ifCond .ne 6, 3) := by decide +kernel
theorem dX11_slice_30 : decode cX11_slice 30 = .ok (.bipush (-2), 2) := by decide +kernel
theorem dX11_slice_32 : decode cX11_slice 32 = .ok (.ireturn, 1) := by decide +kernel
theorem dX11_slice_33 : decode cX11_slice 33 = .ok (.aload_n 0, 1) := by decide +kernel
theorem dX11_slice_34 : decode cX11_slice 34 = .ok (.invokevirtual 164, 3) := by decide +kernel
theorem dX11_slice_37 : decode cX11_slice 37 = .ok (.aload_n 0, 1) := by decide +kernel
theorem dX11_slice_38 : decode cX11_slice 38 = .ok (.getfield 94, 3) := by decide +kernel
theorem dX11_slice_41 : decode cX11_slice 41 = .ok (.iload_n 1, 1) := by decide +kernel
theorem dX11_slice_42 : decode cX11_slice 42 = .ok (.if_icmp .gt 44, 3) := by decide +kernel
theorem dX11_slice_45 : decode cX11_slice 45 = .ok (.aload_n 0, 1) := by decide +kernel
theorem dX11_slice_46 : decode cX11_slice 46 = .ok (.getfield 44, 3) := by decide +kernel
theorem dX11_slice_49 : decode cX11_slice 49 = .ok (.iconst 0, 1) := by decide +kernel
theorem dX11_slice_50 : decode cX11_slice 50 = .ok (.iconst 0, 1) := by decide +kernel
theorem dX11_slice_51 : decode cX11_slice 51 = .ok (.iastore, 1) := by decide +kernel
theorem dX11_slice_52 : decode cX11_slice 52 = .ok (.iconst 0, 1) := by decide +kernel
theorem dX11_slice_53 : decode cX11_slice 53 = .ok (.istore_n 3, 1) := by decide +kernel
theorem dX11_slice_54 : decode cX11_slice 54 = .ok (.iload_n 3, 1) := by decide +kernel
theorem dX11_slice_55 : decode cX11_slice 55 = .ok (.aload_n 0, 1) := by decide +kernel
theorem dX11_slice_56 : decode cX11_slice 56 = .ok (.getfield 94, 3) := by decide +kernel
theorem dX11_slice_59 : decode cX11_slice 59 = .ok (.if_icmp .ge 20, 3) := by decide +kernel
theorem dX11_slice_62 : decode cX11_slice 62 = .ok (.aload_n 0, 1) := by decide +kernel
theorem dX11_slice_63 : decode cX11_slice 63 = .ok (.iconst 0, 1) := by decide +kernel
theorem dX11_slice_64 : decode cX11_slice 64 = .ok (.aload_n 0, 1) := by decide +kernel
theorem dX11_slice_65 : decode cX11_slice 65 = .ok (.getfield 26, 3) := by decide +kernel
theorem dX11_slice_68 : decode cX11_slice 68 = .ok (.iload_n 3, 1) := by decide +kernel
theorem dX11_slice_69 : decode cX11_slice 69 = .ok (.iaload, 1) := by decide +kernel
theorem dX11_slice_70 : decode cX11_slice 70 = .ok (.invokevirtual 236, 3) := by decide +kernel
theorem dX11_slice_73 : decode cX11_slice 73 = .ok (.iinc 3 1, 3) := by decide +kernel
theorem dX11_slice_76 : decode cX11_slice 76 = .ok (.goto (-22), 3) := by decide +kernel
theorem dX11_slice_79 : decode cX11_slice 79 = .ok (.aload_n 0, 1) := by decide +kernel
theorem dX11_slice_80 : decode cX11_slice 80 = .ok (.iconst 1, 1) := by decide +kernel
theorem dX11_slice_81 : decode cX11_slice 81 = .ok (.putfield 240, 3) := by decide +kernel
theorem dX11_slice_84 : decode cX11_slice 84 = .ok (.iconst 1, 1) := by decide +kernel
theorem dX11_slice_85 : decode cX11_slice 85 = .ok (.ireturn, 1) := by decide +kernel
theorem dX11_slice_86 : decode cX11_slice 86 = .ok (.aload_n 0, 1) := by decide +kernel
theorem dX11_slice_87 : decode cX11_slice 87 = .ok (.getfield 154, 3) := by decide +kernel
theorem dX11_slice_90 : decode cX11_slice 90 = .ok (.iload_n 1, 1) := by decide +kernel
theorem dX11_slice_91 : decode cX11_slice 91 = .ok (.iconst 4, 1) := by decide +kernel
theorem dX11_slice_92 : decode cX11_slice 92 = .ok (.isub, 1) := by decide +kernel
theorem dX11_slice_93 : decode cX11_slice 93 = .ok (.if_icmp .le 6, 3) := by decide +kernel
theorem dX11_slice_96 : decode cX11_slice 96 = .ok (.bipush (-3), 2) := by decide +kernel
theorem dX11_slice_98 : decode cX11_slice 98 = .ok (.ireturn, 1) := by decide +kernel
theorem dX11_slice_99 : decode cX11_slice 99 = .ok (.aload_n 0, 1) := by decide +kernel
theorem dX11_slice_100 : decode cX11_slice 100 = .ok (.getfield 78, 3) := by decide +kernel
theorem dX11_slice_103 : decode cX11_slice 103 = .ok (.istore_n 3, 1) := by decide +kernel
theorem dX11_slice_104 : decode cX11_slice 104 = .ok (.iload_n 1, 1) := by decide +kernel
theorem dX11_slice_105 : decode cX11_slice 105 = .ok (.iconst 4, 1) := by decide +kernel
theorem dX11_slice_106 : decode cX11_slice 106 = .ok (.isub, 1) := by decide +kernel
theorem dX11_slice_107 : decode cX11_slice 107 = .ok (.aload_n 0, 1) := by decide +kernel
theorem dX11_slice_108 : decode cX11_slice 108 = .ok (.getfield 154, 3) := by decide +kernel
theorem dX11_slice_111 : decode cX11_slice 111 = .ok (.isub, 1) := by decide +kernel
theorem dX11_slice_112 : decode cX11_slice 112 = .ok (.bipush 8, 2) := by decide +kernel
theorem dX11_slice_114 : decode cX11_slice 114 = .ok (.idiv, 1) := by decide +kernel
theorem dX11_slice_115 : decode cX11_slice 115 = .ok (.bipush 8, 2) := by decide +kernel
theorem dX11_slice_117 : decode cX11_slice 117 = .ok (.imul, 1) := by decide +kernel
theorem dX11_slice_118 : decode cX11_slice 118 = .ok (.istore 4, 2) := by decide +kernel
theorem dX11_slice_120 : decode cX11_slice 120 = .ok (.aload_n 0, 1) := by decide +kernel
theorem dX11_slice_121 : decode cX11_slice 121 = .ok (.iconst 0, 1) := by decide +kernel
theorem dX11_slice_122 : decode cX11_slice 122 = .ok (.sipush 192, 3) := by decide +kernel
theorem dX11_slice_125 : decode cX11_slice 125 = .ok (.iload_n 3, 1) := by decide +kernel
theorem dX11_slice_126 : decode cX11_slice 126 = .ok (.iload_n 2, 1) := by decide +kernel
theorem dX11_slice_127 : decode cX11_slice 127 = .ok (.invokevirtual 243, 3) := by decide +kernel
theorem dX11_slice_130 : decode cX11_slice 130 = .ok (.iconst 0, 1) := by decide +kernel
theorem dX11_slice_131 : decode cX11_slice 131 = .ok (.istore 5, 2) := by decide +kernel
theorem dX11_slice_133 : decode cX11_slice 133 = .ok (.iload 5, 2) := by decide +kernel
theorem dX11_slice_135 : decode cX11_slice 135 = .ok (.aload_n 0, 1) := by decide +kernel
theorem dX11_slice_136 : decode cX11_slice 136 = .ok (.getfield 154, 3) := by decide +kernel
theorem dX11_slice_139 : decode cX11_slice 139 = .ok (.iload 4, 2) := by decide +kernel
theorem dX11_slice_141 : decode cX11_slice 141 = .ok (.iadd, 1) := by decide +kernel
theorem dX11_slice_142 : decode cX11_slice 142 = .ok (.if_icmp .ge 21, 3) := by decide +kernel
theorem dX11_slice_145 : decode cX11_slice 145 = .ok (.aload_n 0, 1) := by decide +kernel
theorem dX11_slice_146 : decode cX11_slice 146 = .ok (.iconst 0, 1) := by decide +kernel
theorem dX11_slice_147 : decode cX11_slice 147 = .ok (.aload_n 0, 1) := by decide +kernel
theorem dX11_slice_148 : decode cX11_slice 148 = .ok (.getfield 26, 3) := by decide +kernel
theorem dX11_slice_151 : decode cX11_slice 151 = .ok (.iload 5, 2) := by decide +kernel
theorem dX11_slice_153 : decode cX11_slice 153 = .ok (.iaload, 1) := by decide +kernel
theorem dX11_slice_154 : decode cX11_slice 154 = .ok (.invokevirtual 236, 3) := by decide +kernel
theorem dX11_slice_157 : decode cX11_slice 157 = .ok (.iinc 5 1, 3) := by decide +kernel
theorem dX11_slice_160 : decode cX11_slice 160 = .ok (.goto (-27), 3) := by decide +kernel
theorem dX11_slice_163 : decode cX11_slice 163 = .ok (.aload_n 0, 1) := by decide +kernel
theorem dX11_slice_164 : decode cX11_slice 164 = .ok (.getfield 157, 3) := by decide +kernel
theorem dX11_slice_167 : decode cX11_slice 167 = .ok (.iload 4, 2) := by decide +kernel
theorem dX11_slice_169 : decode cX11_slice 169 = .ok (.iadd, 1) := by decide +kernel
theorem dX11_slice_170 : decode cX11_slice 170 = .ok (.istore 5, 2) := by decide +kernel
theorem dX11_slice_172 : decode cX11_slice 172 = .ok (.aload_n 0, 1) := by decide +kernel
theorem dX11_slice_173 : decode cX11_slice 173 = .ok (.iconst 1, 1) := by decide +kernel
theorem dX11_slice_174 : decode cX11_slice 174 = .ok (.putfield 240, 3) := by decide +kernel
theorem dX11_slice_177 : decode cX11_slice 177 = .ok (.iload 5, 2) := by decide +kernel
theorem dX11_slice_179 : decode cX11_slice 179 = .ok (.iload_n 3, 1) := by decide +kernel
theorem dX11_slice_180 : decode cX11_slice 180 = .ok (.if_icmp .ge 128, 3) := by decide +kernel
theorem dX11_slice_183 : decode cX11_slice 183 = .ok (.aload_n 0, 1) := by decide +kernel
theorem dX11_slice_184 : decode cX11_slice 184 = .ok (.getfield 240, 3) := by decide +kernel
theorem dX11_slice_187 : decode cX11_slice 187 = .ok (.bipush 40, 2) := by decide +kernel
theorem dX11_slice_189 : decode cX11_slice 189 = .ok (.if_icmp .ne 11, 3) := by decide +kernel
theorem dX11_slice_192 : decode cX11_slice 192 = .ok (.aload_n 0, 1) := by decide +kernel
theorem dX11_slice_193 : decode cX11_slice 193 = .ok (.iconst 0, 1) := by decide +kernel
theorem dX11_slice_194 : decode cX11_slice 194 = .ok (.putfield 240, 3) := by decide +kernel
theorem dX11_slice_197 : decode cX11_slice 197 = .ok (.bipush (-3), 2) := by decide +kernel
theorem dX11_slice_199 : decode cX11_slice 199 = .ok (.ireturn, 1) := by decide +kernel
theorem dX11_slice_200 : decode cX11_slice 200 = .ok (.iload_n 3, 1) := by decide +kernel
theorem dX11_slice_201 : decode cX11_slice 201 = .ok (.iload 5, 2) := by decide +kernel
theorem dX11_slice_203 : decode cX11_slice 203 = .ok (.isub, 1) := by decide +kernel
theorem dX11_slice_204 : decode cX11_slice 204 = .ok (.iload_n 1, 1) := by decide +kernel
theorem dX11_slice_205 : decode cX11_slice 205 = .ok (.iconst 5, 1) := by decide +kernel
theorem dX11_slice_206 : decode cX11_slice 206 = .ok (.isub, 1) := by decide +kernel
theorem dX11_slice_207 : decode cX11_slice 207 = .ok (.if_icmp .gt 10, 3) := by decide +kernel
theorem dX11_slice_210 : decode cX11_slice 210 = .ok (.iload_n 3, 1) := by decide +kernel
theorem dX11_slice_211 : decode cX11_slice 211 = .ok (.iload 5, 2) := by decide +kernel
theorem dX11_slice_213 : decode cX11_slice 213 = .ok (.isub, 1) := by decide +kernel
theorem dX11_slice_214 : decode cX11_slice 214 = .ok (.goto 12, 3) := by decide +kernel
theorem dX11_slice_217 : decode cX11_slice 217 = .ok (.iload_n 1, 1) := by decide +kernel
theorem dX11_slice_218 : decode cX11_slice 218 = .ok (.iconst 5, 1) := by decide +kernel
theorem dX11_slice_219 : decode cX11_slice 219 = .ok (.isub, 1) := by decide +kernel
theorem dX11_slice_220 : decode cX11_slice 220 = .ok (.bipush 8, 2) := by decide +kernel
theorem dX11_slice_222 : decode cX11_slice 222 = .ok (.idiv, 1) := by decide +kernel
theorem dX11_slice_223 : decode cX11_slice 223 = .ok (.bipush 8, 2) := by decide +kernel
theorem dX11_slice_225 : decode cX11_slice 225 = .ok (.imul, 1) := by decide +kernel
theorem dX11_slice_226 : decode cX11_slice 226 = .ok (.istore 6, 2) := by decide +kernel
theorem dX11_slice_228 : decode cX11_slice 228 = .ok (.aload_n 0, 1) := by decide +kernel
theorem dX11_slice_229 : decode cX11_slice 229 = .ok (.aload_n 0, 1) := by decide +kernel
theorem dX11_slice_230 : decode cX11_slice 230 = .ok (.getfield 240, 3) := by decide +kernel
theorem dX11_slice_233 : decode cX11_slice 233 = .ok (.sipush 224, 3) := by decide +kernel
theorem dX11_slice_236 : decode cX11_slice 236 = .ok (.iload_n 3, 1) := by decide +kernel
theorem dX11_slice_237 : decode cX11_slice 237 = .ok (.iload_n 2, 1) := by decide +kernel
theorem dX11_slice_238 : decode cX11_slice 238 = .ok (.invokevirtual 243, 3) := by decide +kernel
theorem dX11_slice_241 : decode cX11_slice 241 = .ok (.aload_n 0, 1) := by decide +kernel
theorem dX11_slice_242 : decode cX11_slice 242 = .ok (.aload_n 0, 1) := by decide +kernel
theorem dX11_slice_243 : decode cX11_slice 243 = .ok (.getfield 240, 3) := by decide +kernel
theorem dX11_slice_246 : decode cX11_slice 246 = .ok (.iload 5, 2) := by decide +kernel
theorem dX11_slice_248 : decode cX11_slice 248 = .ok (.bipush 8, 2) := by decide +kernel
theorem dX11_slice_250 : decode cX11_slice 250 = .ok (.idiv, 1) := by decide +kernel
theorem dX11_slice_251 : decode cX11_slice 251 = .ok (.invokevirtual 236, 3) := by decide +kernel
theorem dX11_slice_254 : decode cX11_slice 254 = .ok (.iconst 0, 1) := by decide +kernel
theorem dX11_slice_255 : decode cX11_slice 255 = .ok (.istore 7, 2) := by decide +kernel
theorem dX11_slice_257 : decode cX11_slice 257 = .ok (.iload 7, 2) := by decide +kernel
theorem dX11_slice_259 : decode cX11_slice 259 = .ok (.iload 6, 2) := by decide +kernel
theorem dX11_slice_261 : decode cX11_slice 261 = .ok (.if_icmp .ge 27, 3) := by decide +kernel
theorem dX11_slice_264 : decode cX11_slice 264 = .ok (.aload_n 0, 1) := by decide +kernel
theorem dX11_slice_265 : decode cX11_slice 265 = .ok (.aload_n 0, 1) := by decide +kernel
theorem dX11_slice_266 : decode cX11_slice 266 = .ok (.getfield 240, 3) := by decide +kernel
theorem dX11_slice_269 : decode cX11_slice 269 = .ok (.aload_n 0, 1) := by decide +kernel
theorem dX11_slice_270 : decode cX11_slice 270 = .ok (.getfield 20, 3) := by decide +kernel
theorem dX11_slice_273 : decode cX11_slice 273 = .ok (.iload 5, 2) := by decide +kernel
theorem dX11_slice_275 : decode cX11_slice 275 = .ok (.iload 7, 2) := by decide +kernel
theorem dX11_slice_277 : decode cX11_slice 277 = .ok (.iadd, 1) := by decide +kernel
theorem dX11_slice_278 : decode cX11_slice 278 = .ok (.iaload, 1) := by decide +kernel
theorem dX11_slice_279 : decode cX11_slice 279 = .ok (.invokevirtual 236, 3) := by decide +kernel
theorem dX11_slice_282 : decode cX11_slice 282 = .ok (.iinc 7 1, 3) := by decide +kernel
theorem dX11_slice_285 : decode cX11_slice 285 = .ok (.goto (-28), 3) := by decide +kernel
theorem dX11_slice_288 : decode cX11_slice 288 = .ok (.iload 5, 2) := by decide +kernel
theorem dX11_slice_290 : decode cX11_slice 290 = .ok (.iload 6, 2) := by decide +kernel
theorem dX11_slice_292 : decode cX11_slice 292 = .ok (.iadd, 1) := by decide +kernel
theorem dX11_slice_293 : decode cX11_slice 293 = .ok (.istore 5, 2) := by decide +kernel
theorem dX11_slice_295 : decode cX11_slice 295 = .ok (.aload_n 0, 1) := by decide +kernel
theorem dX11_slice_296 : decode cX11_slice 296 = .ok (.dup, 1) := by decide +kernel
theorem dX11_slice_297 : decode cX11_slice 297 = .ok (.getfield 240, 3) := by decide +kernel
theorem dX11_slice_300 : decode cX11_slice 300 = .ok (.iconst 1, 1) := by decide +kernel
theorem dX11_slice_301 : decode cX11_slice 301 = .ok (.iadd, 1) := by decide +kernel
theorem dX11_slice_302 : decode cX11_slice 302 = .ok (.putfield 240, 3) := by decide +kernel
theorem dX11_slice_305 : decode cX11_slice 305 = .ok (.goto (-128), 3) := by decide +kernel
theorem dX11_slice_308 : decode cX11_slice 308 = .ok (.aload_n 0, 1) := by decide +kernel
theorem dX11_slice_309 : decode cX11_slice 309 = .ok (.getfield 240, 3) := by decide +kernel
theorem dX11_slice_312 : decode cX11_slice 312 = .ok (.ireturn, 1) := by decide +kernel
theorem dX11_isFrame_0 : decode cX11_isFrame 0 = .ok (.iload_n 1, 1) := by decide +kernel
theorem dX11_isFrame_1 : decode cX11_isFrame 1 = .ok (.iconst 0, 1) := by decide +kernel
theorem dX11_isFrame_2 : decode cX11_isFrame 2 = .ok (.aload_n 0, 1) := by decide +kernel
theorem dX11_isFrame_3 : decode cX11_isFrame 3 = .ok (.getfield 240, 3) := by decide +kernel
theorem dX11_isFrame_6 : decode cX11_isFrame 6 = .ok (.iconst 1, 1) := by decide +kernel
theorem dX11_isFrame_7 : decode cX11_isFrame 7 = .ok (.isub, 1) := by decide +kernel
theorem dX11_isFrame_8 : decode cX11_isFrame 8 = .ok (.invokestatic 72, 3) := by decide +kernel
theorem dX11_isFrame_11 : decode cX11_isFrame 11 = .ok (.ireturn, 1) := by decide +kernel
theorem dX11_frame_0 : decode cX11_frame 0 = .ok (.aload_n 0, 1) := by decide +kernel
theorem dX11_frame_1 : decode cX11_frame 1 = .ok (.iload_n 1, 1) := by decide +kernel
theorem dX11_frame_2 : decode cX11_frame 2 = .ok (.invokevirtual 247, 3) := by decide +kernel
theorem dX11_frame_5 : decode cX11_frame 5 = .ok (.ifCond .ne 5, 3) := by decide +kernel
theorem dX11_frame_8 : decode cX11_frame 8 = .ok (.iconst (-1), 1) := by decide +kernel
theorem dX11_frame_9 : decode cX11_frame 9 = .ok (.ireturn, 1) := by decide +kernel
theorem dX11_frame_10 : decode cX11_frame 10 = .ok (.iload_n 2, 1) := by decide +kernel
theorem dX11_frame_11 : decode cX11_frame 11 = .ok (.iconst (-1), 1) := by decide +kernel
theorem dX11_frame_12 : decode cX11_frame 12 = .ok (.if_icmp .ne 12, 3) := by decide +kernel
theorem dX11_frame_15 : decode cX11_frame 15 = .ok (.aload_n 0, 1) := by decide +kernel
theorem dX11_frame_16 : decode cX11_frame 16 = .ok (.getfield 44, 3) := by decide +kernel
theorem dX11_frame_19 : decode cX11_frame 19 = .ok (.iload_n 1, 1) := by decide +kernel
theorem dX11_frame_20 : decode cX11_frame 20 = .ok (.iaload, 1) := by decide +kernel
theorem dX11_frame_21 : decode cX11_frame 21 = .ok (.goto 34, 3) := by decide +kernel
theorem dX11_frame_24 : decode cX11_frame 24 = .ok (.iload_n 2, 1) := by decide +kernel
theorem dX11_frame_25 : decode cX11_frame 25 = .ok (.iconst 0, 1) := by decide +kernel
theorem dX11_frame_26 : decode cX11_frame 26 = .ok (.aload_n 0, 1) := by decide +kernel
theorem dX11_frame_27 : decode cX11_frame 27 = .ok (.getfield 44, 3) := by decide +kernel
theorem dX11_frame_30 : decode cX11_frame 30 = .ok (.iload_n 1, 1) := by decide +kernel
theorem dX11_frame_31 : decode cX11_frame 31 = .ok (.iaload, 1) := by decide +kernel
theorem dX11_frame_32 : decode cX11_frame 32 = .ok (.iconst 1, 1) := by decide +kernel
theorem dX11_frame_33 : decode cX11_frame 33 = .ok (.isub, 1) := by decide +kernel
theorem dX11_frame_34 : decode cX11_frame 34 = .ok (.invokestatic 72, 3) := by decide +kernel
theorem dX11_frame_37 : decode cX11_frame 37 = .ok (.ifCond .eq 17, 3) := by decide +kernel
theorem dX11_frame_40 : decode cX11_frame 40 = .ok (.aload_n 0, 1) := by decide +kernel
theorem dX11_frame_41 : decode cX11_frame 41 = .ok (.getfield 41, 3) := by decide +kernel
theorem dX11_frame_44 : decode cX11_frame 44 = .ok (.bipush 120, 2) := by decide +kernel
theorem dX11_frame_46 : decode cX11_frame 46 = .ok (.iload_n 1, 1) := by decide +kernel
theorem dX11_frame_47 : decode cX11_frame 47 = .ok (.imul, 1) := by decide +kernel
theorem dX11_frame_48 : decode cX11_frame 48 = .ok (.iload_n 2, 1) := by decide +kernel
theorem dX11_frame_49 : decode cX11_frame 49 = .ok (.iadd, 1) := by decide +kernel
theorem dX11_frame_50 : decode cX11_frame 50 = .ok (.iaload, 1) := by decide +kernel
theorem dX11_frame_51 : decode cX11_frame 51 = .ok (.goto 4, 3) := by decide +kernel
theorem dX11_frame_54 : decode cX11_frame 54 = .ok (.iconst (-1), 1) := by decide +kernel
theorem dX11_frame_55 : decode cX11_frame 55 = .ok (.ireturn, 1) := by decide +kernel
theorem dX11_spoil_0 : decode cX11_spoil 0 = .ok (.aload_n 0, 1) := by decide +kernel
theorem dX11_spoil_1 : decode cX11_spoil 1 = .ok (.iload_n 1, 1) := by decide +kernel
theorem dX11_spoil_2 : decode cX11_spoil 2 = .ok (.invokevirtual 247, 3) := by decide +kernel
theorem dX11_spoil_5 : decode cX11_spoil 5 = .ok (.ifCond .eq 19, 3) := by decide +kernel
theorem dX11_spoil_8 : decode cX11_spoil 8 = .ok (.iload_n 2, 1) := by decide +kernel
theorem dX11_spoil_9 : decode cX11_spoil 9 = .ok (.iconst 0, 1) := by decide +kernel
theorem dX11_spoil_10 : decode cX11_spoil 10 = .ok (.aload_n 0, 1) := by decide +kernel
theorem dX11_spoil_11 : decode cX11_spoil 11 = .ok (.getfield 44, 3) := by decide +kernel
theorem dX11_spoil_14 : decode cX11_spoil 14 = .ok (.iload_n 1, 1) := by decide +kernel
theorem dX11_spoil_15 : decode cX11_spoil 15 = .ok (.iaload, 1) := by decide +kernel
theorem dX11_spoil_16 : decode cX11_spoil 16 = .ok (.iconst 1, 1) := by decide +kernel
theorem dX11_spoil_17 : decode cX11_spoil 17 = .ok (.isub, 1) := by decide +kernel
theorem dX11_spoil_18 : decode cX11_spoil 18 = .ok (.invokestatic 72, 3) := by decide +kernel
theorem dX11_spoil_21 : decode cX11_spoil 21 = .ok (.ifCond .ne 5, 3) := by decide +kernel
theorem dX11_spoil_24 : decode cX11_spoil 24 = .ok (.iconst (-1), 1) := by decide +kernel
theorem dX11_spoil_25 : decode cX11_spoil 25 = .ok (.ireturn, 1) := by decide +kernel
theorem dX11_spoil_26 : decode cX11_spoil 26 = .ok (.aload_n 0, 1) := by decide +kernel
theorem dX11_spoil_27 : decode cX11_spoil 27 = .ok (.getfield 41, 3) := by decide +kernel
theorem dX11_spoil_30 : decode cX11_spoil 30 = .ok (.bipush 120, 2) := by decide +kernel
theorem dX11_spoil_32 : decode cX11_spoil 32 = .ok (.iload_n 1, 1) := by decide +kernel
theorem dX11_spoil_33 : decode cX11_spoil 33 = .ok (.imul, 1) := by decide +kernel
theorem dX11_spoil_34 : decode cX11_spoil 34 = .ok (.iload_n 2, 1) := by decide +kernel
theorem dX11_spoil_35 : decode cX11_spoil 35 = .ok (.iadd, 1) := by decide +kernel
theorem dX11_spoil_36 : decode cX11_spoil 36 = .ok (.aload_n 0, 1) := by decide +kernel
theorem dX11_spoil_37 : decode cX11_spoil 37 = .ok (.getfield 41, 3) := by decide +kernel
theorem dX11_spoil_40 : decode cX11_spoil 40 = .ok (.bipush 120, 2) := by decide +kernel
theorem dX11_spoil_42 : decode cX11_spoil 42 = .ok (.iload_n 1, 1) := by decide +kernel
theorem dX11_spoil_43 : decode cX11_spoil 43 = .ok (.imul, 1) := by decide +kernel
theorem dX11_spoil_44 : decode cX11_spoil 44 = .ok (.iload_n 2, 1) := by decide +kernel
theorem dX11_spoil_45 : decode cX11_spoil 45 = .ok (.iadd, 1) := by decide +kernel
theorem dX11_spoil_46 : decode cX11_spoil 46 = .ok (.iaload, 1) := by decide +kernel
theorem dX11_spoil_47 : decode cX11_spoil 47 = .ok (.iload_n 3, 1) := by decide +kernel
theorem dX11_spoil_48 : decode cX11_spoil 48 = .ok (.sipush 255, 3) := by decide +kernel
theorem dX11_spoil_51 : decode cX11_spoil 51 = .ok (.iand, 1) := by decide +kernel
theorem dX11_spoil_52 : decode cX11_spoil 52 = .ok (.ixor, 1) := by decide +kernel
theorem dX11_spoil_53 : decode cX11_spoil 53 = .ok (.iastore, 1) := by decide +kernel
theorem dX11_spoil_54 : decode cX11_spoil 54 = .ok (.aload_n 0, 1) := by decide +kernel
theorem dX11_spoil_55 : decode cX11_spoil 55 = .ok (.getfield 41, 3) := by decide +kernel
theorem dX11_spoil_58 : decode cX11_spoil 58 = .ok (.bipush 120, 2) := by decide +kernel
theorem dX11_spoil_60 : decode cX11_spoil 60 = .ok (.iload_n 1, 1) := by decide +kernel
theorem dX11_spoil_61 : decode cX11_spoil 61 = .ok (.imul, 1) := by decide +kernel
theorem dX11_spoil_62 : decode cX11_spoil 62 = .ok (.iload_n 2, 1) := by decide +kernel
theorem dX11_spoil_63 : decode cX11_spoil 63 = .ok (.iadd, 1) := by decide +kernel
theorem dX11_spoil_64 : decode cX11_spoil 64 = .ok (.iaload, 1) := by decide +kernel
theorem dX11_spoil_65 : decode cX11_spoil 65 = .ok (.ireturn, 1) := by decide +kernel
theorem dX11_put_0 : decode cX11_put 0 = .ok (.iload_n 1, 1) := by decide +kernel
theorem dX11_put_1 : decode cX11_put 1 = .ok (.iconst 0, 1) := by decide +kernel
theorem dX11_put_2 : decode cX11_put 2 = .ok (.aload_n 0, 1) := by decide +kernel
theorem dX11_put_3 : decode cX11_put 3 = .ok (.getfield 240, 3) := by decide +kernel
theorem dX11_put_6 : decode cX11_put 6 = .ok (.invokestatic 72, 3) := by decide +kernel
theorem dX11_put_9 : decode cX11_put 9 = .ok (.ifCond .ne 5, 3) := by decide +kernel
theorem dX11_put_12 : decode cX11_put 12 = .ok (.iconst (-1), 1) := by decide +kernel
theorem dX11_put_13 : decode cX11_put 13 = .ok (.ireturn, 1) := by decide +kernel
theorem dX11_put_14 : decode cX11_put 14 = .ok (.aload_n 0, 1) := by decide +kernel
theorem dX11_put_15 : decode cX11_put 15 = .ok (.getfield 78, 3) := by decide +kernel
theorem dX11_put_18 : decode cX11_put 18 = .ok (.iconst 1, 1) := by decide +kernel
theorem dX11_put_19 : decode cX11_put 19 = .ok (.bipush 120, 2) := by decide +kernel
theorem dX11_put_21 : decode cX11_put 21 = .ok (.invokestatic 72, 3) := by decide +kernel
theorem dX11_put_24 : decode cX11_put 24 = .ok (.ifCond .ne 6, 3) := by decide +kernel
theorem dX11_put_27 : decode cX11_put 27 = .ok (.bipush (-2), 2) := by decide +kernel
theorem dX11_put_29 : decode cX11_put 29 = .ok (.ireturn, 1) := by decide +kernel
theorem dX11_put_30 : decode cX11_put 30 = .ok (.iload_n 1, 1) := by decide +kernel
theorem dX11_put_31 : decode cX11_put 31 = .ok (.bipush 40, 2) := by decide +kernel
theorem dX11_put_33 : decode cX11_put 33 = .ok (.if_icmp .ne 6, 3) := by decide +kernel
theorem dX11_put_36 : decode cX11_put 36 = .ok (.bipush (-3), 2) := by decide +kernel
theorem dX11_put_38 : decode cX11_put 38 = .ok (.ireturn, 1) := by decide +kernel
theorem dX11_put_39 : decode cX11_put 39 = .ok (.aload_n 0, 1) := by decide +kernel
theorem dX11_put_40 : decode cX11_put 40 = .ok (.getfield 44, 3) := by decide +kernel
theorem dX11_put_43 : decode cX11_put 43 = .ok (.iload_n 1, 1) := by decide +kernel
theorem dX11_put_44 : decode cX11_put 44 = .ok (.iconst 0, 1) := by decide +kernel
theorem dX11_put_45 : decode cX11_put 45 = .ok (.iastore, 1) := by decide +kernel
theorem dX11_put_46 : decode cX11_put 46 = .ok (.iconst 0, 1) := by decide +kernel
theorem dX11_put_47 : decode cX11_put 47 = .ok (.istore_n 2, 1) := by decide +kernel
theorem dX11_put_48 : decode cX11_put 48 = .ok (.iload_n 2, 1) := by decide +kernel
theorem dX11_put_49 : decode cX11_put 49 = .ok (.aload_n 0, 1) := by decide +kernel
theorem dX11_put_50 : decode cX11_put 50 = .ok (.getfield 78, 3) := by decide +kernel
theorem dX11_put_53 : decode cX11_put 53 = .ok (.if_icmp .ge 20, 3) := by decide +kernel
theorem dX11_put_56 : decode cX11_put 56 = .ok (.aload_n 0, 1) := by decide +kernel
theorem dX11_put_57 : decode cX11_put 57 = .ok (.iload_n 1, 1) := by decide +kernel
theorem dX11_put_58 : decode cX11_put 58 = .ok (.aload_n 0, 1) := by decide +kernel
theorem dX11_put_59 : decode cX11_put 59 = .ok (.getfield 20, 3) := by decide +kernel
theorem dX11_put_62 : decode cX11_put 62 = .ok (.iload_n 2, 1) := by decide +kernel
theorem dX11_put_63 : decode cX11_put 63 = .ok (.iaload, 1) := by decide +kernel
theorem dX11_put_64 : decode cX11_put 64 = .ok (.invokevirtual 236, 3) := by decide +kernel
theorem dX11_put_67 : decode cX11_put 67 = .ok (.iinc 2 1, 3) := by decide +kernel
theorem dX11_put_70 : decode cX11_put 70 = .ok (.goto (-22), 3) := by decide +kernel
theorem dX11_put_73 : decode cX11_put 73 = .ok (.aload_n 0, 1) := by decide +kernel
theorem dX11_put_74 : decode cX11_put 74 = .ok (.iload_n 1, 1) := by decide +kernel
theorem dX11_put_75 : decode cX11_put 75 = .ok (.aload_n 0, 1) := by decide +kernel
theorem dX11_put_76 : decode cX11_put 76 = .ok (.getfield 240, 3) := by decide +kernel
theorem dX11_put_79 : decode cX11_put 79 = .ok (.if_icmp .ne 9, 3) := by decide +kernel
theorem dX11_put_82 : decode cX11_put 82 = .ok (.iload_n 1, 1) := by decide +kernel
theorem dX11_put_83 : decode cX11_put 83 = .ok (.iconst 1, 1) := by decide +kernel
theorem dX11_put_84 : decode cX11_put 84 = .ok (.iadd, 1) := by decide +kernel
theorem dX11_put_85 : decode cX11_put 85 = .ok (.goto 7, 3) := by decide +kernel
theorem dX11_put_88 : decode cX11_put 88 = .ok (.aload_n 0, 1) := by decide +kernel
theorem dX11_put_89 : decode cX11_put 89 = .ok (.getfield 240, 3) := by decide +kernel
theorem dX11_put_92 : decode cX11_put 92 = .ok (.putfield 240, 3) := by decide +kernel
theorem dX11_put_95 : decode cX11_put 95 = .ok (.aload_n 0, 1) := by decide +kernel
theorem dX11_put_96 : decode cX11_put 96 = .ok (.getfield 240, 3) := by decide +kernel
theorem dX11_put_99 : decode cX11_put 99 = .ok (.ireturn, 1) := by decide +kernel
theorem dX11_goes_0 : decode cX11_goes 0 = .ok (.iload_n 1, 1) := by decide +kernel
theorem dX11_goes_1 : decode cX11_goes 1 = .ok (.istore_n 2, 1) := by decide +kernel
theorem dX11_goes_2 : decode cX11_goes 2 = .ok (.iload_n 2, 1) := by decide +kernel
theorem dX11_goes_3 : decode cX11_goes 3 = .ok (.iconst 1, 1) := by decide +kernel
theorem dX11_goes_4 : decode cX11_goes 4 = .ok (.iadd, 1) := by decide +kernel
theorem dX11_goes_5 : decode cX11_goes 5 = .ok (.aload_n 0, 1) := by decide +kernel
theorem dX11_goes_6 : decode cX11_goes 6 = .ok (.getfield 250, 3) := by decide +kernel
theorem dX11_goes_9 : decode cX11_goes 9 = .ok (.if_icmp .ge 172, 3) := by decide +kernel
theorem dX11_goes_12 : decode cX11_goes 12 = .ok (.aload_n 0, 1) := by decide +kernel
theorem dX11_goes_13 : decode cX11_goes 13 = .ok (.getfield 47, 3) := by decide +kernel
theorem dX11_goes_16 : decode cX11_goes 16 = .ok (.iload_n 2, 1) := by decide +kernel
theorem dX11_goes_17 : decode cX11_goes 17 = .ok (.aload_n 0, 1) := by decide +kernel
theorem dX11_goes_18 : decode cX11_goes 18 = .ok (.getfield 47, 3) := by decide +kernel
theorem dX11_goes_21 : decode cX11_goes 21 = .ok (.iload_n 2, 1) := by decide +kernel
theorem dX11_goes_22 : decode cX11_goes 22 = .ok (.iconst 1, 1) := by decide +kernel
theorem dX11_goes_23 : decode cX11_goes 23 = .ok (.iadd, 1) := by decide +kernel
theorem dX11_goes_24 : decode cX11_goes 24 = .ok (.iaload, 1) := by decide +kernel
theorem dX11_goes_25 : decode cX11_goes 25 = .ok (.iastore, 1) := by decide +kernel
theorem dX11_goes_26 : decode cX11_goes 26 = .ok (.aload_n 0, 1) := by decide +kernel
theorem dX11_goes_27 : decode cX11_goes 27 = .ok (.getfield 50, 3) := by decide +kernel
theorem dX11_goes_30 : decode cX11_goes 30 = .ok (.iload_n 2, 1) := by decide +kernel
theorem dX11_goes_31 : decode cX11_goes 31 = .ok (.aload_n 0, 1) := by decide +kernel
theorem dX11_goes_32 : decode cX11_goes 32 = .ok (.getfield 50, 3) := by decide +kernel
theorem dX11_goes_35 : decode cX11_goes 35 = .ok (.iload_n 2, 1) := by decide +kernel
theorem dX11_goes_36 : decode cX11_goes 36 = .ok (.iconst 1, 1) := by decide +kernel
theorem dX11_goes_37 : decode cX11_goes 37 = .ok (.iadd, 1) := by decide +kernel
theorem dX11_goes_38 : decode cX11_goes 38 = .ok (.iaload, 1) := by decide +kernel
theorem dX11_goes_39 : decode cX11_goes 39 = .ok (.iastore, 1) := by decide +kernel
theorem dX11_goes_40 : decode cX11_goes 40 = .ok (.aload_n 0, 1) := by decide +kernel
theorem dX11_goes_41 : decode cX11_goes 41 = .ok (.getfield 53, 3) := by decide +kernel
theorem dX11_goes_44 : decode cX11_goes 44 = .ok (.iload_n 2, 1) := by decide +kernel
theorem dX11_goes_45 : decode cX11_goes 45 = .ok (.aload_n 0, 1) := by decide +kernel
theorem dX11_goes_46 : decode cX11_goes 46 = .ok (.getfield 53, 3) := by decide +kernel
theorem dX11_goes_49 : decode cX11_goes 49 = .ok (.iload_n 2, 1) := by decide +kernel
theorem dX11_goes_50 : decode cX11_goes 50 = .ok (.iconst 1, 1) := by decide +kernel
theorem dX11_goes_51 : decode cX11_goes 51 = .ok (.iadd, 1) := by decide +kernel
theorem dX11_goes_52 : decode cX11_goes 52 = .ok (.iaload, 1) := by decide +kernel
theorem dX11_goes_53 : decode cX11_goes 53 = .ok (.iastore, 1) := by decide +kernel
theorem dX11_goes_54 : decode cX11_goes 54 = .ok (.aload_n 0, 1) := by decide +kernel
theorem dX11_goes_55 : decode cX11_goes 55 = .ok (.getfield 59, 3) := by decide +kernel
theorem dX11_goes_58 : decode cX11_goes 58 = .ok (.iload_n 2, 1) := by decide +kernel
theorem dX11_goes_59 : decode cX11_goes 59 = .ok (.aload_n 0, 1) := by decide +kernel
theorem dX11_goes_60 : decode cX11_goes 60 = .ok (.getfield 59, 3) := by decide +kernel
theorem dX11_goes_63 : decode cX11_goes 63 = .ok (.iload_n 2, 1) := by decide +kernel
theorem dX11_goes_64 : decode cX11_goes 64 = .ok (.iconst 1, 1) := by decide +kernel
theorem dX11_goes_65 : decode cX11_goes 65 = .ok (.iadd, 1) := by decide +kernel
theorem dX11_goes_66 : decode cX11_goes 66 = .ok (.iaload, 1) := by decide +kernel
theorem dX11_goes_67 : decode cX11_goes 67 = .ok (.iastore, 1) := by decide +kernel
theorem dX11_goes_68 : decode cX11_goes 68 = .ok (.iconst 0, 1) := by decide +kernel
theorem dX11_goes_69 : decode cX11_goes 69 = .ok (.istore_n 3, 1) := by decide +kernel
theorem dX11_goes_70 : decode cX11_goes 70 = .ok (.iload_n 3, 1) := by decide +kernel
theorem dX11_goes_71 : decode cX11_goes 71 = .ok (.sipush 600, 3) := by decide +kernel
theorem dX11_goes_74 : decode cX11_goes 74 = .ok (.if_icmp .ge 37, 3) := by decide +kernel
theorem dX11_goes_77 : decode cX11_goes 77 = .ok (.aload_n 0, 1) := by decide +kernel
theorem dX11_goes_78 : decode cX11_goes 78 = .ok (.getfield 56, 3) := by decide +kernel
theorem dX11_goes_81 : decode cX11_goes 81 = .ok (.sipush 600, 3) := by decide +kernel
theorem dX11_goes_84 : decode cX11_goes 84 = .ok (.iload_n 2, 1) := by decide +kernel
theorem dX11_goes_85 : decode cX11_goes 85 = .ok (.imul, 1) := by decide +kernel
theorem dX11_goes_86 : decode cX11_goes 86 = .ok (.iload_n 3, 1) := by decide +kernel
theorem dX11_goes_87 : decode cX11_goes 87 = .ok (.iadd, 1) := by decide +kernel
theorem dX11_goes_88 : decode cX11_goes 88 = .ok (.aload_n 0, 1) := by decide +kernel
theorem dX11_goes_89 : decode cX11_goes 89 = .ok (.getfield 56, 3) := by decide +kernel
theorem dX11_goes_92 : decode cX11_goes 92 = .ok (.sipush 600, 3) := by decide +kernel
theorem dX11_goes_95 : decode cX11_goes 95 = .ok (.iload_n 2, 1) := by decide +kernel
theorem dX11_goes_96 : decode cX11_goes 96 = .ok (.imul, 1) := by decide +kernel
theorem dX11_goes_97 : decode cX11_goes 97 = .ok (.sipush 600, 3) := by decide +kernel
theorem dX11_goes_100 : decode cX11_goes 100 = .ok (.iadd, 1) := by decide +kernel
theorem dX11_goes_101 : decode cX11_goes 101 = .ok (.iload_n 3, 1) := by decide +kernel
theorem dX11_goes_102 : decode cX11_goes 102 = .ok (.iadd, 1) := by decide +kernel
theorem dX11_goes_103 : decode cX11_goes 103 = .ok (.iaload, 1) := by decide +kernel
theorem dX11_goes_104 : decode cX11_goes 104 = .ok (.iastore, 1) := by decide +kernel
theorem dX11_goes_105 : decode cX11_goes 105 = .ok (.iinc 3 1, 3) := by decide +kernel
theorem dX11_goes_108 : decode cX11_goes 108 = .ok (.goto (-38), 3) := by decide +kernel
theorem dX11_goes_111 : decode cX11_goes 111 = .ok (.iconst 0, 1) := by decide +kernel
theorem dX11_goes_112 : decode cX11_goes 112 = .ok (.istore_n 3, 1) := by decide +kernel
theorem dX11_goes_113 : decode cX11_goes 113 = .ok (.iload_n 3, 1) := by decide +kernel
theorem dX11_goes_114 : decode cX11_goes 114 = .ok (.bipush 100, 2) := by decide +kernel
theorem dX11_goes_116 : decode cX11_goes 116 = .ok (.if_icmp .ge 59, 3) := by decide +kernel
theorem dX11_goes_119 : decode cX11_goes 119 = .ok (.aload_n 0, 1) := by decide +kernel
theorem dX11_goes_120 : decode cX11_goes 120 = .ok (.getfield 62, 3) := by decide +kernel
theorem dX11_goes_123 : decode cX11_goes 123 = .ok (.bipush 100, 2) := by decide +kernel
theorem dX11_goes_125 : decode cX11_goes 125 = .ok (.iload_n 2, 1) := by decide +kernel
theorem dX11_goes_126 : decode cX11_goes 126 = .ok (.imul, 1) := by decide +kernel
theorem dX11_goes_127 : decode cX11_goes 127 = .ok (.iload_n 3, 1) := by decide +kernel
theorem dX11_goes_128 : decode cX11_goes 128 = .ok (.iadd, 1) := by decide +kernel
theorem dX11_goes_129 : decode cX11_goes 129 = .ok (.aload_n 0, 1) := by decide +kernel
theorem dX11_goes_130 : decode cX11_goes 130 = .ok (.getfield 62, 3) := by decide +kernel
theorem dX11_goes_133 : decode cX11_goes 133 = .ok (.bipush 100, 2) := by decide +kernel
theorem dX11_goes_135 : decode cX11_goes 135 = .ok (.iload_n 2, 1) := by decide +kernel
theorem dX11_goes_136 : decode cX11_goes 136 = .ok (.imul, 1) := by decide +kernel
theorem dX11_goes_137 : decode cX11_goes 137 = .ok (.bipush 100, 2) := by decide +kernel
theorem dX11_goes_139 : decode cX11_goes 139 = .ok (.iadd, 1) := by decide +kernel
theorem dX11_goes_140 : decode cX11_goes 140 = .ok (.iload_n 3, 1) := by decide +kernel
theorem dX11_goes_141 : decode cX11_goes 141 = .ok (.iadd, 1) := by decide +kernel
theorem dX11_goes_142 : decode cX11_goes 142 = .ok (.iaload, 1) := by decide +kernel
theorem dX11_goes_143 : decode cX11_goes 143 = .ok (.iastore, 1) := by decide +kernel
theorem dX11_goes_144 : decode cX11_goes 144 = .ok (.aload_n 0, 1) := by decide +kernel
theorem dX11_goes_145 : decode cX11_goes 145 = .ok (.getfield 65, 3) := by decide +kernel
theorem dX11_goes_148 : decode cX11_goes 148 = .ok (.bipush 100, 2) := by decide +kernel
theorem dX11_goes_150 : decode cX11_goes 150 = .ok (.iload_n 2, 1) := by decide +kernel
theorem dX11_goes_151 : decode cX11_goes 151 = .ok (.imul, 1) := by decide +kernel
theorem dX11_goes_152 : decode cX11_goes 152 = .ok (.iload_n 3, 1) := by decide +kernel
theorem dX11_goes_153 : decode cX11_goes 153 = .ok (.iadd, 1) := by decide +kernel
theorem dX11_goes_154 : decode cX11_goes 154 = .ok (.aload_n 0, 1) := by decide +kernel
theorem dX11_goes_155 : decode cX11_goes 155 = .ok (.getfield 65, 3) := by decide +kernel
theorem dX11_goes_158 : decode cX11_goes 158 = .ok (.bipush 100, 2) := by decide +kernel
theorem dX11_goes_160 : decode cX11_goes 160 = .ok (.iload_n 2, 1) := by decide +kernel
theorem dX11_goes_161 : decode cX11_goes 161 = .ok (.imul, 1) := by decide +kernel
theorem dX11_goes_162 : decode cX11_goes 162 = .ok (.bipush 100, 2) := by decide +kernel
theorem dX11_goes_164 : decode cX11_goes 164 = .ok (.iadd, 1) := by decide +kernel
theorem dX11_goes_165 : decode cX11_goes 165 = .ok (.iload_n 3, 1) := by decide +kernel
theorem dX11_goes_166 : decode cX11_goes 166 = .ok (.iadd, 1) := by decide +kernel
theorem dX11_goes_167 : decode cX11_goes 167 = .ok (.iaload, 1) := by decide +kernel
theorem dX11_goes_168 : decode cX11_goes 168 = .ok (.iastore, 1) := by decide +kernel
theorem dX11_goes_169 : decode cX11_goes 169 = .ok (.iinc 3 1, 3) := by decide +kernel
theorem dX11_goes_172 : decode cX11_goes 172 = .ok (.goto (-59), 3) := by decide +kernel
theorem dX11_goes_175 : decode cX11_goes 175 = .ok (.iinc 2 1, 3) := by decide +kernel
theorem dX11_goes_178 : decode cX11_goes 178 = .ok (.goto (-176), 3) := by decide +kernel
theorem dX11_goes_181 : decode cX11_goes 181 = .ok (.aload_n 0, 1) := by decide +kernel
theorem dX11_goes_182 : decode cX11_goes 182 = .ok (.dup, 1) := by decide +kernel
theorem dX11_goes_183 : decode cX11_goes 183 = .ok (.getfield 250, 3) := by decide +kernel
theorem dX11_goes_186 : decode cX11_goes 186 = .ok (.iconst 1, 1) := by decide +kernel
theorem dX11_goes_187 : decode cX11_goes 187 = .ok (.isub, 1) := by decide +kernel
theorem dX11_goes_188 : decode cX11_goes 188 = .ok (.putfield 250, 3) := by decide +kernel
theorem dX11_goes_191 : decode cX11_goes 191 = .ok (.return_, 1) := by decide +kernel
theorem dX11_drops_0 : decode cX11_drops 0 = .ok (.aload_n 0, 1) := by decide +kernel
theorem dX11_drops_1 : decode cX11_drops 1 = .ok (.dup, 1) := by decide +kernel
theorem dX11_drops_2 : decode cX11_drops 2 = .ok (.getfield 253, 3) := by decide +kernel
theorem dX11_drops_5 : decode cX11_drops 5 = .ok (.iconst 1, 1) := by decide +kernel
theorem dX11_drops_6 : decode cX11_drops 6 = .ok (.iadd, 1) := by decide +kernel
theorem dX11_drops_7 : decode cX11_drops 7 = .ok (.putfield 253, 3) := by decide +kernel
theorem dX11_drops_10 : decode cX11_drops 10 = .ok (.iconst 0, 1) := by decide +kernel
theorem dX11_drops_11 : decode cX11_drops 11 = .ok (.ireturn, 1) := by decide +kernel
theorem dX11_reads_0 : decode cX11_reads 0 = .ok (.aload_n 0, 1) := by decide +kernel
theorem dX11_reads_1 : decode cX11_reads 1 = .ok (.aload_n 0, 1) := by decide +kernel
theorem dX11_reads_2 : decode cX11_reads 2 = .ok (.getfield 44, 3) := by decide +kernel
theorem dX11_reads_5 : decode cX11_reads 5 = .ok (.iload_n 1, 1) := by decide +kernel
theorem dX11_reads_6 : decode cX11_reads 6 = .ok (.iaload, 1) := by decide +kernel
theorem dX11_reads_7 : decode cX11_reads 7 = .ok (.iload_n 2, 1) := by decide +kernel
theorem dX11_reads_8 : decode cX11_reads 8 = .ok (.isub, 1) := by decide +kernel
theorem dX11_reads_9 : decode cX11_reads 9 = .ok (.putfield 179, 3) := by decide +kernel
theorem dX11_reads_12 : decode cX11_reads 12 = .ok (.iconst 0, 1) := by decide +kernel
theorem dX11_reads_13 : decode cX11_reads 13 = .ok (.istore_n 3, 1) := by decide +kernel
theorem dX11_reads_14 : decode cX11_reads 14 = .ok (.iload_n 3, 1) := by decide +kernel
theorem dX11_reads_15 : decode cX11_reads 15 = .ok (.aload_n 0, 1) := by decide +kernel
theorem dX11_reads_16 : decode cX11_reads 16 = .ok (.getfield 179, 3) := by decide +kernel
theorem dX11_reads_19 : decode cX11_reads 19 = .ok (.if_icmp .ge 28, 3) := by decide +kernel
theorem dX11_reads_22 : decode cX11_reads 22 = .ok (.aload_n 0, 1) := by decide +kernel
theorem dX11_reads_23 : decode cX11_reads 23 = .ok (.getfield 29, 3) := by decide +kernel
theorem dX11_reads_26 : decode cX11_reads 26 = .ok (.iload_n 3, 1) := by decide +kernel
theorem dX11_reads_27 : decode cX11_reads 27 = .ok (.aload_n 0, 1) := by decide +kernel
theorem dX11_reads_28 : decode cX11_reads 28 = .ok (.getfield 41, 3) := by decide +kernel
theorem dX11_reads_31 : decode cX11_reads 31 = .ok (.bipush 120, 2) := by decide +kernel
theorem dX11_reads_33 : decode cX11_reads 33 = .ok (.iload_n 1, 1) := by decide +kernel
theorem dX11_reads_34 : decode cX11_reads 34 = .ok (.imul, 1) := by decide +kernel
theorem dX11_reads_35 : decode cX11_reads 35 = .ok (.iload_n 2, 1) := by decide +kernel
theorem dX11_reads_36 : decode cX11_reads 36 = .ok (.iadd, 1) := by decide +kernel
theorem dX11_reads_37 : decode cX11_reads 37 = .ok (.iload_n 3, 1) := by decide +kernel
theorem dX11_reads_38 : decode cX11_reads 38 = .ok (.iadd, 1) := by decide +kernel
theorem dX11_reads_39 : decode cX11_reads 39 = .ok (.iaload, 1) := by decide +kernel
theorem dX11_reads_40 : decode cX11_reads 40 = .ok (.iastore, 1) := by decide +kernel
theorem dX11_reads_41 : decode cX11_reads 41 = .ok (.iinc 3 1, 3) := by decide +kernel
theorem dX11_reads_44 : decode cX11_reads 44 = .ok (.goto (-30), 3) := by decide +kernel
theorem dX11_reads_47 : decode cX11_reads 47 = .ok (.return_, 1) := by decide +kernel
theorem dX11_hear_0 : decode cX11_hear 0 = .ok (.aload_n 0, 1) := by decide +kernel
theorem dX11_hear_1 : decode cX11_hear 1 = .ok (.iload_n 1, 1) := by decide +kernel
theorem dX11_hear_2 : decode cX11_hear 2 = .ok (.invokevirtual 247, 3) := by decide +kernel
theorem dX11_hear_5 : decode cX11_hear 5 = .ok (.ifCond .ne 5, 3) := by decide +kernel
theorem dX11_hear_8 : decode cX11_hear 8 = .ok (.iconst (-1), 1) := by decide +kernel
theorem dX11_hear_9 : decode cX11_hear 9 = .ok (.ireturn, 1) := by decide +kernel
theorem dX11_hear_10 : decode cX11_hear 10 = .ok (.aload_n 0, 1) := by decide +kernel
theorem dX11_hear_11 : decode cX11_hear 11 = .ok (.getfield 41, 3) := by decide +kernel
theorem dX11_hear_14 : decode cX11_hear 14 = .ok (.bipush 120, 2) := by decide +kernel
theorem dX11_hear_16 : decode cX11_hear 16 = .ok (.iload_n 1, 1) := by decide +kernel
theorem dX11_hear_17 : decode cX11_hear 17 = .ok (.imul, 1) := by decide +kernel
theorem dX11_hear_18 : decode cX11_hear 18 = .ok (.iaload, 1) := by decide +kernel
theorem dX11_hear_19 : decode cX11_hear 19 = .ok (.istore_n 2, 1) := by decide +kernel
theorem dX11_hear_20 : decode cX11_hear 20 = .ok (.iload_n 2, 1) := by decide +kernel
theorem dX11_hear_21 : decode cX11_hear 21 = .ok (.iconst 5, 1) := by decide +kernel
theorem dX11_hear_22 : decode cX11_hear 22 = .ok (.ishr, 1) := by decide +kernel
theorem dX11_hear_23 : decode cX11_hear 23 = .ok (.iconst 3, 1) := by decide +kernel
theorem dX11_hear_24 : decode cX11_hear 24 = .ok (.if_icmp .ne 38, 3) := by decide +kernel
theorem dX11_hear_27 : decode cX11_hear 27 = .ok (.aload_n 0, 1) := by decide +kernel
theorem dX11_hear_28 : decode cX11_hear 28 = .ok (.iload_n 1, 1) := by decide +kernel
theorem dX11_hear_29 : decode cX11_hear 29 = .ok (.iconst 0, 1) := by decide +kernel
theorem dX11_hear_30 : decode cX11_hear 30 = .ok (.invokevirtual 256, 3) := by decide +kernel
theorem dX11_hear_33 : decode cX11_hear 33 = .ok (.aload_n 0, 1) := by decide +kernel
theorem dX11_hear_34 : decode cX11_hear 34 = .ok (.iconst (-1), 1) := by decide +kernel
theorem dX11_hear_35 : decode cX11_hear 35 = .ok (.invokevirtual 220, 3) := by decide +kernel
theorem dX11_hear_38 : decode cX11_hear 38 = .ok (.ifCond .ne 8, 3) := by decide +kernel
theorem dX11_hear_41 : decode cX11_hear 41 = .ok (.aload_n 0, 1) := by decide +kernel
theorem dX11_hear_42 : decode cX11_hear 42 = .ok (.invokevirtual 259, 3) := by decide +kernel
theorem dX11_hear_45 : decode cX11_hear 45 = .ok (.ireturn, 1) := by decide +kernel
theorem dX11_hear_46 : decode cX11_hear 46 = .ok (.aload_n 0, 1) := by decide +kernel
theorem dX11_hear_47 : decode cX11_hear 47 = .ok (.invokevirtual 233, 3) := by decide +kernel
theorem dX11_hear_50 : decode cX11_hear 50 = .ok (.aload_n 0, 1) := by decide +kernel
theorem dX11_hear_51 : decode cX11_hear 51 = .ok (.dup, 1) := by decide +kernel
theorem dX11_hear_52 : decode cX11_hear 52 = .ok (.getfield 262, 3) := by decide +kernel
theorem dX11_hear_55 : decode cX11_hear 55 = .ok (.iconst 1, 1) := by decide +kernel
theorem dX11_hear_56 : decode cX11_hear 56 = .ok (.iadd, 1) := by decide +kernel
theorem dX11_hear_57 : decode cX11_hear 57 = .ok (.putfield 262, 3) := by decide +kernel
theorem dX11_hear_60 : decode cX11_hear 60 = .ok (.iconst 2, 1) := by decide +kernel
theorem dX11_hear_61 : decode cX11_hear 61 = .ok (.ireturn, 1) := by decide +kernel
theorem dX11_hear_62 : decode cX11_hear 62 = .ok (.iload_n 2, 1) := by decide +kernel
theorem dX11_hear_63 : decode cX11_hear 63 = .ok (.iconst 3, 1) := by decide +kernel
theorem dX11_hear_64 : decode cX11_hear 64 = .ok (.ishr, 1) := by decide +kernel
theorem dX11_hear_65 : decode cX11_hear 65 = .ok (.bipush 24, 2) := by decide +kernel
theorem dX11_hear_67 : decode cX11_hear 67 = .ok (.if_icmp .ne 7, 3) := by decide +kernel
theorem dX11_hear_70 : decode cX11_hear 70 = .ok (.iconst 1, 1) := by decide +kernel
theorem dX11_hear_71 : decode cX11_hear 71 = .ok (.goto 4, 3) := by decide +kernel
theorem dX11_hear_74 : decode cX11_hear 74 = .ok (.iconst 0, 1) := by decide +kernel
theorem dX11_hear_75 : decode cX11_hear 75 = .ok (.istore_n 3, 1) := by decide +kernel
theorem dX11_hear_76 : decode cX11_hear 76 = .ok (.iload_n 3, 1) := by decide +kernel
theorem dX11_hear_77 : decode cX11_hear 77 = .ok (.ifCond .ne 11, 3) := by decide +kernel
theorem dX11_hear_80 : decode cX11_hear 80 = .ok (.iload_n 2, 1) := by decide +kernel
theorem dX11_hear_81 : decode cX11_hear 81 = .ok (.iconst 3, 1) := by decide +kernel
theorem dX11_hear_82 : decode cX11_hear 82 = .ok (.ishr, 1) := by decide +kernel
theorem dX11_hear_83 : decode cX11_hear 83 = .ok (.bipush 28, 2) := by decide +kernel
theorem dX11_hear_85 : decode cX11_hear 85 = .ok (.if_icmp .ne 22, 3) := by decide +kernel
theorem dX11_hear_88 : decode cX11_hear 88 = .ok (.aload_n 0, 1) := by decide +kernel
theorem dX11_hear_89 : decode cX11_hear 89 = .ok (.getfield 44, 3) := by decide +kernel
theorem dX11_hear_92 : decode cX11_hear 92 = .ok (.iload_n 1, 1) := by decide +kernel
theorem dX11_hear_93 : decode cX11_hear 93 = .ok (.iaload, 1) := by decide +kernel
theorem dX11_hear_94 : decode cX11_hear 94 = .ok (.iload_n 3, 1) := by decide +kernel
theorem dX11_hear_95 : decode cX11_hear 95 = .ok (.ifCond .eq 7, 3) := by decide +kernel
theorem dX11_hear_98 : decode cX11_hear 98 = .ok (.iconst 5, 1) := by decide +kernel
theorem dX11_hear_99 : decode cX11_hear 99 = .ok (.goto 5, 3) := by decide +kernel
theorem dX11_hear_102 : decode cX11_hear 102 = .ok (.bipush 6, 2) := by decide +kernel
theorem dX11_hear_104 : decode cX11_hear 104 = .ok (.if_icmp .ge 8, 3) := by decide +kernel
theorem dX11_hear_107 : decode cX11_hear 107 = .ok (.aload_n 0, 1) := by decide +kernel
theorem dX11_hear_108 : decode cX11_hear 108 = .ok (.invokevirtual 259, 3) := by decide +kernel
theorem dX11_hear_111 : decode cX11_hear 111 = .ok (.ireturn, 1) := by decide +kernel
theorem dX11_hear_112 : decode cX11_hear 112 = .ok (.iload_n 2, 1) := by decide +kernel
theorem dX11_hear_113 : decode cX11_hear 113 = .ok (.bipush 7, 2) := by decide +kernel
theorem dX11_hear_115 : decode cX11_hear 115 = .ok (.iand, 1) := by decide +kernel
theorem dX11_hear_116 : decode cX11_hear 116 = .ok (.bipush 8, 2) := by decide +kernel
theorem dX11_hear_118 : decode cX11_hear 118 = .ok (.ishl, 1) := by decide +kernel
theorem dX11_hear_119 : decode cX11_hear 119 = .ok (.aload_n 0, 1) := by decide +kernel
theorem dX11_hear_120 : decode cX11_hear 120 = .ok (.getfield 41, 3) := by decide +kernel
theorem dX11_hear_123 : decode cX11_hear 123 = .ok (.bipush 120, 2) := by decide +kernel
theorem dX11_hear_125 : decode cX11_hear 125 = .ok (.iload_n 1, 1) := by decide +kernel
theorem dX11_hear_126 : decode cX11_hear 126 = .ok (.imul, 1) := by decide +kernel
theorem dX11_hear_127 : decode cX11_hear 127 = .ok (.iconst 1, 1) := by decide +kernel
theorem dX11_hear_128 : decode cX11_hear 128 = .ok (.iadd, 1) := by decide +kernel
theorem dX11_hear_129 : decode cX11_hear 129 = .ok (.iaload, 1) := by decide +kernel
theorem dX11_hear_130 : decode cX11_hear 130 = .ok (.ior, 1) := by decide +kernel
theorem dX11_hear_131 : decode cX11_hear 131 = .ok (.istore 4, 2) := by decide +kernel
theorem dX11_hear_133 : decode cX11_hear 133 = .ok (.aload_n 0, 1) := by decide +kernel
theorem dX11_hear_134 : decode cX11_hear 134 = .ok (.getfield 41, 3) := by decide +kernel
theorem dX11_hear_137 : decode cX11_hear 137 = .ok (.bipush 120, 2) := by decide +kernel
theorem dX11_hear_139 : decode cX11_hear 139 = .ok (.iload_n 1, 1) := by decide +kernel
theorem dX11_hear_140 : decode cX11_hear 140 = .ok (.imul, 1) := by decide +kernel
theorem dX11_hear_141 : decode cX11_hear 141 = .ok (.iconst 2, 1) := by decide +kernel
theorem dX11_hear_142 : decode cX11_hear 142 = .ok (.iadd, 1) := by decide +kernel
theorem dX11_hear_143 : decode cX11_hear 143 = .ok (.iaload, 1) := by decide +kernel
theorem dX11_hear_144 : decode cX11_hear 144 = .ok (.bipush 8, 2) := by decide +kernel
theorem dX11_hear_146 : decode cX11_hear 146 = .ok (.ishl, 1) := by decide +kernel
theorem dX11_hear_147 : decode cX11_hear 147 = .ok (.aload_n 0, 1) := by decide +kernel
theorem dX11_hear_148 : decode cX11_hear 148 = .ok (.getfield 41, 3) := by decide +kernel
theorem dX11_hear_151 : decode cX11_hear 151 = .ok (.bipush 120, 2) := by decide +kernel
theorem dX11_hear_153 : decode cX11_hear 153 = .ok (.iload_n 1, 1) := by decide +kernel
theorem dX11_hear_154 : decode cX11_hear 154 = .ok (.imul, 1) := by decide +kernel
theorem dX11_hear_155 : decode cX11_hear 155 = .ok (.iconst 3, 1) := by decide +kernel
theorem dX11_hear_156 : decode cX11_hear 156 = .ok (.iadd, 1) := by decide +kernel
theorem dX11_hear_157 : decode cX11_hear 157 = .ok (.iaload, 1) := by decide +kernel
theorem dX11_hear_158 : decode cX11_hear 158 = .ok (.ior, 1) := by decide +kernel
theorem dX11_hear_159 : decode cX11_hear 159 = .ok (.istore 5, 2) := by decide +kernel
theorem dX11_hear_161 : decode cX11_hear 161 = .ok (.iload 4, 2) := by decide +kernel
theorem dX11_hear_163 : decode cX11_hear 163 = .ok (.bipush 40, 2) := by decide +kernel
theorem dX11_hear_165 : decode cX11_hear 165 = .ok (.if_icmp .lt 11, 3) := by decide +kernel
theorem dX11_hear_168 : decode cX11_hear 168 = .ok (.iload 4, 2) := by decide +kernel
theorem dX11_hear_170 : decode cX11_hear 170 = .ok (.sipush 600, 3) := by decide +kernel
theorem dX11_hear_173 : decode cX11_hear 173 = .ok (.if_icmp .le 8, 3) := by decide +kernel
theorem dX11_hear_176 : decode cX11_hear 176 = .ok (.aload_n 0, 1) := by decide +kernel
theorem dX11_hear_177 : decode cX11_hear 177 = .ok (.invokevirtual 259, 3) := by decide +kernel
theorem dX11_hear_180 : decode cX11_hear 180 = .ok (.ireturn, 1) := by decide +kernel
theorem dX11_hear_181 : decode cX11_hear 181 = .ok (.iconst 0, 1) := by decide +kernel
theorem dX11_hear_182 : decode cX11_hear 182 = .ok (.istore 6, 2) := by decide +kernel
theorem dX11_hear_184 : decode cX11_hear 184 = .ok (.iload_n 3, 1) := by decide +kernel
theorem dX11_hear_185 : decode cX11_hear 185 = .ok (.ifCond .eq 23, 3) := by decide +kernel
theorem dX11_hear_188 : decode cX11_hear 188 = .ok (.aload_n 0, 1) := by decide +kernel
theorem dX11_hear_189 : decode cX11_hear 189 = .ok (.iload_n 1, 1) := by decide +kernel
theorem dX11_hear_190 : decode cX11_hear 190 = .ok (.iconst 4, 1) := by decide +kernel
theorem dX11_hear_191 : decode cX11_hear 191 = .ok (.invokevirtual 256, 3) := by decide +kernel
theorem dX11_hear_194 : decode cX11_hear 194 = .ok (.aload_n 0, 1) := by decide +kernel
theorem dX11_hear_195 : decode cX11_hear 195 = .ok (.iload 4, 2) := by decide +kernel
theorem dX11_hear_197 : decode cX11_hear 197 = .ok (.invokevirtual 220, 3) := by decide +kernel
theorem dX11_hear_200 : decode cX11_hear 200 = .ok (.ifCond .ne 75, 3) := by decide +kernel
theorem dX11_hear_203 : decode cX11_hear 203 = .ok (.aload_n 0, 1) := by decide +kernel
theorem dX11_hear_204 : decode cX11_hear 204 = .ok (.invokevirtual 259, 3) := by decide +kernel
theorem dX11_hear_207 : decode cX11_hear 207 = .ok (.ireturn, 1) := by decide +kernel
theorem dX11_hear_208 : decode cX11_hear 208 = .ok (.bipush 8, 2) := by decide +kernel
theorem dX11_hear_210 : decode cX11_hear 210 = .ok (.aload_n 0, 1) := by decide +kernel
theorem dX11_hear_211 : decode cX11_hear 211 = .ok (.getfield 41, 3) := by decide +kernel
theorem dX11_hear_214 : decode cX11_hear 214 = .ok (.bipush 120, 2) := by decide +kernel
theorem dX11_hear_216 : decode cX11_hear 216 = .ok (.iload_n 1, 1) := by decide +kernel
theorem dX11_hear_217 : decode cX11_hear 217 = .ok (.imul, 1) := by decide +kernel
theorem dX11_hear_218 : decode cX11_hear 218 = .ok (.iconst 4, 1) := by decide +kernel
theorem dX11_hear_219 : decode cX11_hear 219 = .ok (.iadd, 1) := by decide +kernel
theorem dX11_hear_220 : decode cX11_hear 220 = .ok (.iaload, 1) := by decide +kernel
theorem dX11_hear_221 : decode cX11_hear 221 = .ok (.imul, 1) := by decide +kernel
theorem dX11_hear_222 : decode cX11_hear 222 = .ok (.istore 6, 2) := by decide +kernel
theorem dX11_hear_224 : decode cX11_hear 224 = .ok (.aload_n 0, 1) := by decide +kernel
theorem dX11_hear_225 : decode cX11_hear 225 = .ok (.aload_n 0, 1) := by decide +kernel
theorem dX11_hear_226 : decode cX11_hear 226 = .ok (.getfield 44, 3) := by decide +kernel
theorem dX11_hear_229 : decode cX11_hear 229 = .ok (.iload_n 1, 1) := by decide +kernel
theorem dX11_hear_230 : decode cX11_hear 230 = .ok (.iaload, 1) := by decide +kernel
theorem dX11_hear_231 : decode cX11_hear 231 = .ok (.iconst 5, 1) := by decide +kernel
theorem dX11_hear_232 : decode cX11_hear 232 = .ok (.isub, 1) := by decide +kernel
theorem dX11_hear_233 : decode cX11_hear 233 = .ok (.putfield 207, 3) := by decide +kernel
theorem dX11_hear_236 : decode cX11_hear 236 = .ok (.iconst 0, 1) := by decide +kernel
theorem dX11_hear_237 : decode cX11_hear 237 = .ok (.istore 7, 2) := by decide +kernel
theorem dX11_hear_239 : decode cX11_hear 239 = .ok (.iload 7, 2) := by decide +kernel
theorem dX11_hear_241 : decode cX11_hear 241 = .ok (.aload_n 0, 1) := by decide +kernel
theorem dX11_hear_242 : decode cX11_hear 242 = .ok (.getfield 207, 3) := by decide +kernel
theorem dX11_hear_245 : decode cX11_hear 245 = .ok (.if_icmp .ge 30, 3) := by decide +kernel
theorem dX11_hear_248 : decode cX11_hear 248 = .ok (.aload_n 0, 1) := by decide +kernel
theorem dX11_hear_249 : decode cX11_hear 249 = .ok (.getfield 32, 3) := by decide +kernel
theorem dX11_hear_252 : decode cX11_hear 252 = .ok (.iload 7, 2) := by decide +kernel
theorem dX11_hear_254 : decode cX11_hear 254 = .ok (.aload_n 0, 1) := by decide +kernel
theorem dX11_hear_255 : decode cX11_hear 255 = .ok (.getfield 41, 3) := by decide +kernel
theorem dX11_hear_258 : decode cX11_hear 258 = .ok (.bipush 120, 2) := by decide +kernel
theorem dX11_hear_260 : decode cX11_hear 260 = .ok (.iload_n 1, 1) := by decide +kernel
theorem dX11_hear_261 : decode cX11_hear 261 = .ok (.imul, 1) := by decide +kernel
theorem dX11_hear_262 : decode cX11_hear 262 = .ok (.iconst 5, 1) := by decide +kernel
theorem dX11_hear_263 : decode cX11_hear 263 = .ok (.iadd, 1) := by decide +kernel
theorem dX11_hear_264 : decode cX11_hear 264 = .ok (.iload 7, 2) := by decide +kernel
theorem dX11_hear_266 : decode cX11_hear 266 = .ok (.iadd, 1) := by decide +kernel
theorem dX11_hear_267 : decode cX11_hear 267 = .ok (.iaload, 1) := by decide +kernel
theorem dX11_hear_268 : decode cX11_hear 268 = .ok (.iastore, 1) := by decide +kernel
theorem dX11_hear_269 : decode cX11_hear 269 = .ok (.iinc 7 1, 3) := by decide +kernel
theorem dX11_hear_272 : decode cX11_hear 272 = .ok (.goto (-33), 3) := by decide +kernel
theorem dX11_hear_275 : decode cX11_hear 275 = .ok (.iload 6, 2) := by decide +kernel
theorem dX11_hear_277 : decode cX11_hear 277 = .ok (.aload_n 0, 1) := by decide +kernel
theorem dX11_hear_278 : decode cX11_hear 278 = .ok (.getfield 207, 3) := by decide +kernel
theorem dX11_hear_281 : decode cX11_hear 281 = .ok (.iadd, 1) := by decide +kernel
theorem dX11_hear_282 : decode cX11_hear 282 = .ok (.istore 7, 2) := by decide +kernel
theorem dX11_hear_284 : decode cX11_hear 284 = .ok (.iload 7, 2) := by decide +kernel
theorem dX11_hear_286 : decode cX11_hear 286 = .ok (.iload 4, 2) := by decide +kernel
theorem dX11_hear_288 : decode cX11_hear 288 = .ok (.if_icmp .gt 18, 3) := by decide +kernel
theorem dX11_hear_291 : decode cX11_hear 291 = .ok (.iload 7, 2) := by decide +kernel
theorem dX11_hear_293 : decode cX11_hear 293 = .ok (.bipush 8, 2) := by decide +kernel
theorem dX11_hear_295 : decode cX11_hear 295 = .ok (.irem, 1) := by decide +kernel
theorem dX11_hear_296 : decode cX11_hear 296 = .ok (.ifCond .eq 15, 3) := by decide +kernel
theorem dX11_hear_299 : decode cX11_hear 299 = .ok (.iload 7, 2) := by decide +kernel
theorem dX11_hear_301 : decode cX11_hear 301 = .ok (.iload 4, 2) := by decide +kernel
theorem dX11_hear_303 : decode cX11_hear 303 = .ok (.if_icmp .eq 8, 3) := by decide +kernel
theorem dX11_hear_306 : decode cX11_hear 306 = .ok (.aload_n 0, 1) := by decide +kernel
theorem dX11_hear_307 : decode cX11_hear 307 = .ok (.invokevirtual 259, 3) := by decide +kernel
theorem dX11_hear_310 : decode cX11_hear 310 = .ok (.ireturn, 1) := by decide +kernel
theorem dX11_hear_311 : decode cX11_hear 311 = .ok (.aload_n 0, 1) := by decide +kernel
theorem dX11_hear_312 : decode cX11_hear 312 = .ok (.iload 4, 2) := by decide +kernel
theorem dX11_hear_314 : decode cX11_hear 314 = .ok (.iload 5, 2) := by decide +kernel
theorem dX11_hear_316 : decode cX11_hear 316 = .ok (.iload 6, 2) := by decide +kernel
theorem dX11_hear_318 : decode cX11_hear 318 = .ok (.invokevirtual 265, 3) := by decide +kernel
theorem dX11_hear_321 : decode cX11_hear 321 = .ok (.ireturn, 1) := by decide +kernel
theorem dX11_hears_0 : decode cX11_hears 0 = .ok (.aload_n 0, 1) := by decide +kernel
theorem dX11_hears_1 : decode cX11_hears 1 = .ok (.getfield 250, 3) := by decide +kernel
theorem dX11_hears_4 : decode cX11_hears 4 = .ok (.iconst 1, 1) := by decide +kernel
theorem dX11_hears_5 : decode cX11_hears 5 = .ok (.isub, 1) := by decide +kernel
theorem dX11_hears_6 : decode cX11_hears 6 = .ok (.istore 4, 2) := by decide +kernel
theorem dX11_hears_8 : decode cX11_hears 8 = .ok (.iload 4, 2) := by decide +kernel
theorem dX11_hears_10 : decode cX11_hears 10 = .ok (.ifCond .lt 42, 3) := by decide +kernel
theorem dX11_hears_13 : decode cX11_hears 13 = .ok (.aload_n 0, 1) := by decide +kernel
theorem dX11_hears_14 : decode cX11_hears 14 = .ok (.getfield 269, 3) := by decide +kernel
theorem dX11_hears_17 : decode cX11_hears 17 = .ok (.aload_n 0, 1) := by decide +kernel
theorem dX11_hears_18 : decode cX11_hears 18 = .ok (.getfield 53, 3) := by decide +kernel
theorem dX11_hears_21 : decode cX11_hears 21 = .ok (.iload 4, 2) := by decide +kernel
theorem dX11_hears_23 : decode cX11_hears 23 = .ok (.iaload, 1) := by decide +kernel
theorem dX11_hears_24 : decode cX11_hears 24 = .ok (.isub, 1) := by decide +kernel
theorem dX11_hears_25 : decode cX11_hears 25 = .ok (.bipush 60, 2) := by decide +kernel
theorem dX11_hears_27 : decode cX11_hears 27 = .ok (.if_icmp .lt 19, 3) := by decide +kernel
theorem dX11_hears_30 : decode cX11_hears 30 = .ok (.aload_n 0, 1) := by decide +kernel
theorem dX11_hears_31 : decode cX11_hears 31 = .ok (.iload 4, 2) := by decide +kernel
theorem dX11_hears_33 : decode cX11_hears 33 = .ok (.invokevirtual 272, 3) := by decide +kernel
theorem dX11_hears_36 : decode cX11_hears 36 = .ok (.aload_n 0, 1) := by decide +kernel
theorem dX11_hears_37 : decode cX11_hears 37 = .ok (.dup, 1) := by decide +kernel
theorem dX11_hears_38 : decode cX11_hears 38 = .ok (.getfield 275, 3) := by decide +kernel
theorem dX11_hears_41 : decode cX11_hears 41 = .ok (.iconst 1, 1) := by decide +kernel
theorem dX11_hears_42 : decode cX11_hears 42 = .ok (.iadd, 1) := by decide +kernel
theorem dX11_hears_43 : decode cX11_hears 43 = .ok (.putfield 275, 3) := by decide +kernel
theorem dX11_hears_46 : decode cX11_hears 46 = .ok (.iinc 4 (-1), 3) := by decide +kernel
theorem dX11_hears_49 : decode cX11_hears 49 = .ok (.goto (-41), 3) := by decide +kernel
theorem dX11_hears_52 : decode cX11_hears 52 = .ok (.iconst 0, 1) := by decide +kernel
theorem dX11_hears_53 : decode cX11_hears 53 = .ok (.istore 4, 2) := by decide +kernel
theorem dX11_hears_55 : decode cX11_hears 55 = .ok (.iload 4, 2) := by decide +kernel
theorem dX11_hears_57 : decode cX11_hears 57 = .ok (.aload_n 0, 1) := by decide +kernel
theorem dX11_hears_58 : decode cX11_hears 58 = .ok (.getfield 250, 3) := by decide +kernel
theorem dX11_hears_61 : decode cX11_hears 61 = .ok (.if_icmp .ge 31, 3) := by decide +kernel
theorem dX11_hears_64 : decode cX11_hears 64 = .ok (.aload_n 0, 1) := by decide +kernel
theorem dX11_hears_65 : decode cX11_hears 65 = .ok (.getfield 47, 3) := by decide +kernel
theorem dX11_hears_68 : decode cX11_hears 68 = .ok (.iload 4, 2) := by decide +kernel
theorem dX11_hears_70 : decode cX11_hears 70 = .ok (.iaload, 1) := by decide +kernel
theorem dX11_hears_71 : decode cX11_hears 71 = .ok (.iload_n 1, 1) := by decide +kernel
theorem dX11_hears_72 : decode cX11_hears 72 = .ok (.if_icmp .ne 14, 3) := by decide +kernel
theorem dX11_hears_75 : decode cX11_hears 75 = .ok (.aload_n 0, 1) := by decide +kernel
theorem dX11_hears_76 : decode cX11_hears 76 = .ok (.getfield 50, 3) := by decide +kernel
theorem dX11_hears_79 : decode cX11_hears 79 = .ok (.iload 4, 2) := by decide +kernel
theorem dX11_hears_81 : decode cX11_hears 81 = .ok (.iaload, 1) := by decide +kernel
theorem dX11_hears_82 : decode cX11_hears 82 = .ok (.iload_n 2, 1) := by decide +kernel
theorem dX11_hears_83 : decode cX11_hears 83 = .ok (.if_icmp .eq 9, 3) := by decide +kernel
theorem dX11_hears_86 : decode cX11_hears 86 = .ok (.iinc 4 1, 3) := by decide +kernel
theorem dX11_hears_89 : decode cX11_hears 89 = .ok (.goto (-34), 3) := by decide +kernel
theorem dX11_hears_92 : decode cX11_hears 92 = .ok (.iload 4, 2) := by decide +kernel
theorem dX11_hears_94 : decode cX11_hears 94 = .ok (.aload_n 0, 1) := by decide +kernel
theorem dX11_hears_95 : decode cX11_hears 95 = .ok (.getfield 250, 3) := by decide +kernel
theorem dX11_hears_98 : decode cX11_hears 98 = .ok (.if_icmp .ne 61, 3) := by decide +kernel
theorem dX11_hears_101 : decode cX11_hears 101 = .ok (.aload_n 0, 1) := by decide +kernel
theorem dX11_hears_102 : decode cX11_hears 102 = .ok (.getfield 250, 3) := by decide +kernel
theorem dX11_hears_105 : decode cX11_hears 105 = .ok (.iconst 3, 1) := by decide +kernel
theorem dX11_hears_106 : decode cX11_hears 106 = .ok (.if_icmp .ne 8, 3) := by decide +kernel
theorem dX11_hears_109 : decode cX11_hears 109 = .ok (.aload_n 0, 1) := by decide +kernel
theorem dX11_hears_110 : decode cX11_hears 110 = .ok (.invokevirtual 259, 3) := by decide +kernel
theorem dX11_hears_113 : decode cX11_hears 113 = .ok (.ireturn, 1) := by decide +kernel
theorem dX11_hears_114 : decode cX11_hears 114 = .ok (.aload_n 0, 1) := by decide +kernel
theorem dX11_hears_115 : decode cX11_hears 115 = .ok (.getfield 47, 3) := by decide +kernel
theorem dX11_hears_118 : decode cX11_hears 118 = .ok (.iload 4, 2) := by decide +kernel
theorem dX11_hears_120 : decode cX11_hears 120 = .ok (.iload_n 1, 1) := by decide +kernel
theorem dX11_hears_121 : decode cX11_hears 121 = .ok (.iastore, 1) := by decide +kernel
theorem dX11_hears_122 : decode cX11_hears 122 = .ok (.aload_n 0, 1) := by decide +kernel
theorem dX11_hears_123 : decode cX11_hears 123 = .ok (.getfield 50, 3) := by decide +kernel
theorem dX11_hears_126 : decode cX11_hears 126 = .ok (.iload 4, 2) := by decide +kernel
theorem dX11_hears_128 : decode cX11_hears 128 = .ok (.iload_n 2, 1) := by decide +kernel
theorem dX11_hears_129 : decode cX11_hears 129 = .ok (.iastore, 1) := by decide +kernel
theorem dX11_hears_130 : decode cX11_hears 130 = .ok (.aload_n 0, 1) := by decide +kernel
theorem dX11_hears_131 : decode cX11_hears 131 = .ok (.getfield 53, 3) := by decide +kernel
theorem dX11_hears_134 : decode cX11_hears 134 = .ok (.iload 4, 2) := by decide +kernel
theorem dX11_hears_136 : decode cX11_hears 136 = .ok (.aload_n 0, 1) := by decide +kernel
theorem dX11_hears_137 : decode cX11_hears 137 = .ok (.getfield 269, 3) := by decide +kernel
theorem dX11_hears_140 : decode cX11_hears 140 = .ok (.iastore, 1) := by decide +kernel
theorem dX11_hears_141 : decode cX11_hears 141 = .ok (.aload_n 0, 1) := by decide +kernel
theorem dX11_hears_142 : decode cX11_hears 142 = .ok (.getfield 59, 3) := by decide +kernel
theorem dX11_hears_145 : decode cX11_hears 145 = .ok (.iload 4, 2) := by decide +kernel
theorem dX11_hears_147 : decode cX11_hears 147 = .ok (.iconst 0, 1) := by decide +kernel
theorem dX11_hears_148 : decode cX11_hears 148 = .ok (.iastore, 1) := by decide +kernel
theorem dX11_hears_149 : decode cX11_hears 149 = .ok (.aload_n 0, 1) := by decide +kernel
theorem dX11_hears_150 : decode cX11_hears 150 = .ok (.dup, 1) := by decide +kernel
theorem dX11_hears_151 : decode cX11_hears 151 = .ok (.getfield 250, 3) := by decide +kernel
theorem dX11_hears_154 : decode cX11_hears 154 = .ok (.iconst 1, 1) := by decide +kernel
theorem dX11_hears_155 : decode cX11_hears 155 = .ok (.iadd, 1) := by decide +kernel
theorem dX11_hears_156 : decode cX11_hears 156 = .ok (.putfield 250, 3) := by decide +kernel
theorem dX11_hears_159 : decode cX11_hears 159 = .ok (.iconst 0, 1) := by decide +kernel
theorem dX11_hears_160 : decode cX11_hears 160 = .ok (.istore 5, 2) := by decide +kernel
theorem dX11_hears_162 : decode cX11_hears 162 = .ok (.iconst 0, 1) := by decide +kernel
theorem dX11_hears_163 : decode cX11_hears 163 = .ok (.istore 6, 2) := by decide +kernel
theorem dX11_hears_165 : decode cX11_hears 165 = .ok (.iload 6, 2) := by decide +kernel
theorem dX11_hears_167 : decode cX11_hears 167 = .ok (.aload_n 0, 1) := by decide +kernel
theorem dX11_hears_168 : decode cX11_hears 168 = .ok (.getfield 59, 3) := by decide +kernel
theorem dX11_hears_171 : decode cX11_hears 171 = .ok (.iload 4, 2) := by decide +kernel
theorem dX11_hears_173 : decode cX11_hears 173 = .ok (.iaload, 1) := by decide +kernel
theorem dX11_hears_174 : decode cX11_hears 174 = .ok (.if_icmp .ge 91, 3) := by decide +kernel
theorem dX11_hears_177 : decode cX11_hears 177 = .ok (.aload_n 0, 1) := by decide +kernel
theorem dX11_hears_178 : decode cX11_hears 178 = .ok (.getfield 62, 3) := by decide +kernel
theorem dX11_hears_181 : decode cX11_hears 181 = .ok (.bipush 100, 2) := by decide +kernel
theorem dX11_hears_183 : decode cX11_hears 183 = .ok (.iload 4, 2) := by decide +kernel
theorem dX11_hears_185 : decode cX11_hears 185 = .ok (.imul, 1) := by decide +kernel
theorem dX11_hears_186 : decode cX11_hears 186 = .ok (.iload 6, 2) := by decide +kernel
theorem dX11_hears_188 : decode cX11_hears 188 = .ok (.iadd, 1) := by decide +kernel
theorem dX11_hears_189 : decode cX11_hears 189 = .ok (.iaload, 1) := by decide +kernel
theorem dX11_hears_190 : decode cX11_hears 190 = .ok (.istore 7, 2) := by decide +kernel
theorem dX11_hears_192 : decode cX11_hears 192 = .ok (.aload_n 0, 1) := by decide +kernel
theorem dX11_hears_193 : decode cX11_hears 193 = .ok (.getfield 65, 3) := by decide +kernel
theorem dX11_hears_196 : decode cX11_hears 196 = .ok (.bipush 100, 2) := by decide +kernel
theorem dX11_hears_198 : decode cX11_hears 198 = .ok (.iload 4, 2) := by decide +kernel
theorem dX11_hears_200 : decode cX11_hears 200 = .ok (.imul, 1) := by decide +kernel
theorem dX11_hears_201 : decode cX11_hears 201 = .ok (.iload 6, 2) := by decide +kernel
theorem dX11_hears_203 : decode cX11_hears 203 = .ok (.iadd, 1) := by decide +kernel
theorem dX11_hears_204 : decode cX11_hears 204 = .ok (.iaload, 1) := by decide +kernel
theorem dX11_hears_205 : decode cX11_hears 205 = .ok (.istore 8, 2) := by decide +kernel
theorem dX11_hears_207 : decode cX11_hears 207 = .ok (.iload 7, 2) := by decide +kernel
theorem dX11_hears_209 : decode cX11_hears 209 = .ok (.iload_n 3, 1) := by decide +kernel
theorem dX11_hears_210 : decode cX11_hears 210 = .ok (.if_icmp .ne 17, 3) := by decide +kernel
theorem dX11_hears_213 : decode cX11_hears 213 = .ok (.iload 8, 2) := by decide +kernel
theorem dX11_hears_215 : decode cX11_hears 215 = .ok (.aload_n 0, 1) := by decide +kernel
theorem dX11_hears_216 : decode cX11_hears 216 = .ok (.getfield 207, 3) := by decide +kernel
theorem dX11_hears_219 : decode cX11_hears 219 = .ok (.if_icmp .ne 8, 3) := by decide +kernel
theorem dX11_hears_222 : decode cX11_hears 222 = .ok (.aload_n 0, 1) := by decide +kernel
theorem dX11_hears_223 : decode cX11_hears 223 = .ok (.invokevirtual 259, 3) := by decide +kernel
theorem dX11_hears_226 : decode cX11_hears 226 = .ok (.ireturn, 1) := by decide +kernel
theorem dX11_hears_227 : decode cX11_hears 227 = .ok (.iload 5, 2) := by decide +kernel
theorem dX11_hears_229 : decode cX11_hears 229 = .ok (.ifCond .ne 23, 3) := by decide +kernel
theorem dX11_hears_232 : decode cX11_hears 232 = .ok (.iload 7, 2) := by decide +kernel
theorem dX11_hears_234 : decode cX11_hears 234 = .ok (.iload_n 3, 1) := by decide +kernel
theorem dX11_hears_235 : decode cX11_hears 235 = .ok (.aload_n 0, 1) := by decide +kernel
theorem dX11_hears_236 : decode cX11_hears 236 = .ok (.getfield 207, 3) := by decide +kernel
theorem dX11_hears_239 : decode cX11_hears 239 = .ok (.iadd, 1) := by decide +kernel
theorem dX11_hears_240 : decode cX11_hears 240 = .ok (.if_icmp .ge 16, 3) := by decide +kernel
theorem dX11_hears_243 : decode cX11_hears 243 = .ok (.iload_n 3, 1) := by decide +kernel
theorem dX11_hears_244 : decode cX11_hears 244 = .ok (.iload 7, 2) := by decide +kernel
theorem dX11_hears_246 : decode cX11_hears 246 = .ok (.iload 8, 2) := by decide +kernel
theorem dX11_hears_248 : decode cX11_hears 248 = .ok (.iadd, 1) := by decide +kernel
theorem dX11_hears_249 : decode cX11_hears 249 = .ok (.if_icmp .ge 7, 3) := by decide +kernel
theorem dX11_hears_252 : decode cX11_hears 252 = .ok (.iconst 1, 1) := by decide +kernel
theorem dX11_hears_253 : decode cX11_hears 253 = .ok (.goto 4, 3) := by decide +kernel
theorem dX11_hears_256 : decode cX11_hears 256 = .ok (.iconst 0, 1) := by decide +kernel
theorem dX11_hears_257 : decode cX11_hears 257 = .ok (.istore 5, 2) := by decide +kernel
theorem dX11_hears_259 : decode cX11_hears 259 = .ok (.iinc 6 1, 3) := by decide +kernel
theorem dX11_hears_262 : decode cX11_hears 262 = .ok (.goto (-97), 3) := by decide +kernel
theorem dX11_hears_265 : decode cX11_hears 265 = .ok (.iload 5, 2) := by decide +kernel
theorem dX11_hears_267 : decode cX11_hears 267 = .ok (.ifCond .eq 32, 3) := by decide +kernel
theorem dX11_hears_270 : decode cX11_hears 270 = .ok (.aload_n 0, 1) := by decide +kernel
theorem dX11_hears_271 : decode cX11_hears 271 = .ok (.getfield 59, 3) := by decide +kernel
theorem dX11_hears_274 : decode cX11_hears 274 = .ok (.iload 4, 2) := by decide +kernel
theorem dX11_hears_276 : decode cX11_hears 276 = .ok (.iconst 0, 1) := by decide +kernel
theorem dX11_hears_277 : decode cX11_hears 277 = .ok (.iastore, 1) := by decide +kernel
theorem dX11_hears_278 : decode cX11_hears 278 = .ok (.aload_n 0, 1) := by decide +kernel
theorem dX11_hears_279 : decode cX11_hears 279 = .ok (.getfield 53, 3) := by decide +kernel
theorem dX11_hears_282 : decode cX11_hears 282 = .ok (.iload 4, 2) := by decide +kernel
theorem dX11_hears_284 : decode cX11_hears 284 = .ok (.aload_n 0, 1) := by decide +kernel
theorem dX11_hears_285 : decode cX11_hears 285 = .ok (.getfield 269, 3) := by decide +kernel
theorem dX11_hears_288 : decode cX11_hears 288 = .ok (.iastore, 1) := by decide +kernel
theorem dX11_hears_289 : decode cX11_hears 289 = .ok (.aload_n 0, 1) := by decide +kernel
theorem dX11_hears_290 : decode cX11_hears 290 = .ok (.dup, 1) := by decide +kernel
theorem dX11_hears_291 : decode cX11_hears 291 = .ok (.getfield 278, 3) := by decide +kernel
theorem dX11_hears_294 : decode cX11_hears 294 = .ok (.iconst 1, 1) := by decide +kernel
theorem dX11_hears_295 : decode cX11_hears 295 = .ok (.iadd, 1) := by decide +kernel
theorem dX11_hears_296 : decode cX11_hears 296 = .ok (.putfield 278, 3) := by decide +kernel
theorem dX11_hears_299 : decode cX11_hears 299 = .ok (.aload_n 0, 1) := by decide +kernel
theorem dX11_hears_300 : decode cX11_hears 300 = .ok (.getfield 62, 3) := by decide +kernel
theorem dX11_hears_303 : decode cX11_hears 303 = .ok (.bipush 100, 2) := by decide +kernel
theorem dX11_hears_305 : decode cX11_hears 305 = .ok (.iload 4, 2) := by decide +kernel
theorem dX11_hears_307 : decode cX11_hears 307 = .ok (.imul, 1) := by decide +kernel
theorem dX11_hears_308 : decode cX11_hears 308 = .ok (.aload_n 0, 1) := by decide +kernel
theorem dX11_hears_309 : decode cX11_hears 309 = .ok (.getfield 59, 3) := by decide +kernel
theorem dX11_hears_312 : decode cX11_hears 312 = .ok (.iload 4, 2) := by decide +kernel
theorem dX11_hears_314 : decode cX11_hears 314 = .ok (.iaload, 1) := by decide +kernel
theorem dX11_hears_315 : decode cX11_hears 315 = .ok (.iadd, 1) := by decide +kernel
theorem dX11_hears_316 : decode cX11_hears 316 = .ok (.iload_n 3, 1) := by decide +kernel
theorem dX11_hears_317 : decode cX11_hears 317 = .ok (.iastore, 1) := by decide +kernel
theorem dX11_hears_318 : decode cX11_hears 318 = .ok (.aload_n 0, 1) := by decide +kernel
theorem dX11_hears_319 : decode cX11_hears 319 = .ok (.getfield 65, 3) := by decide +kernel
theorem dX11_hears_322 : decode cX11_hears 322 = .ok (.bipush 100, 2) := by decide +kernel
theorem dX11_hears_324 : decode cX11_hears 324 = .ok (.iload 4, 2) := by decide +kernel
theorem dX11_hears_326 : decode cX11_hears 326 = .ok (.imul, 1) := by decide +kernel
theorem dX11_hears_327 : decode cX11_hears 327 = .ok (.aload_n 0, 1) := by decide +kernel
theorem dX11_hears_328 : decode cX11_hears 328 = .ok (.getfield 59, 3) := by decide +kernel
theorem dX11_hears_331 : decode cX11_hears 331 = .ok (.iload 4, 2) := by decide +kernel
theorem dX11_hears_333 : decode cX11_hears 333 = .ok (.iaload, 1) := by decide +kernel
theorem dX11_hears_334 : decode cX11_hears 334 = .ok (.iadd, 1) := by decide +kernel
theorem dX11_hears_335 : decode cX11_hears 335 = .ok (.aload_n 0, 1) := by decide +kernel
theorem dX11_hears_336 : decode cX11_hears 336 = .ok (.getfield 207, 3) := by decide +kernel
theorem dX11_hears_339 : decode cX11_hears 339 = .ok (.iastore, 1) := by decide +kernel
theorem dX11_hears_340 : decode cX11_hears 340 = .ok (.aload_n 0, 1) := by decide +kernel
theorem dX11_hears_341 : decode cX11_hears 341 = .ok (.getfield 59, 3) := by decide +kernel
theorem dX11_hears_344 : decode cX11_hears 344 = .ok (.iload 4, 2) := by decide +kernel
theorem dX11_hears_346 : decode cX11_hears 346 = .ok (.dup2, 1) := by decide +kernel
theorem dX11_hears_347 : decode cX11_hears 347 = .ok (.iaload, 1) := by decide +kernel
theorem dX11_hears_348 : decode cX11_hears 348 = .ok (.iconst 1, 1) := by decide +kernel
theorem dX11_hears_349 : decode cX11_hears 349 = .ok (.iadd, 1) := by decide +kernel
theorem dX11_hears_350 : decode cX11_hears 350 = .ok (.iastore, 1) := by decide +kernel
theorem dX11_hears_351 : decode cX11_hears 351 = .ok (.iconst 0, 1) := by decide +kernel
theorem dX11_hears_352 : decode cX11_hears 352 = .ok (.istore 6, 2) := by decide +kernel
theorem dX11_hears_354 : decode cX11_hears 354 = .ok (.iload 6, 2) := by decide +kernel
theorem dX11_hears_356 : decode cX11_hears 356 = .ok (.aload_n 0, 1) := by decide +kernel
theorem dX11_hears_357 : decode cX11_hears 357 = .ok (.getfield 207, 3) := by decide +kernel
theorem dX11_hears_360 : decode cX11_hears 360 = .ok (.if_icmp .ge 32, 3) := by decide +kernel
theorem dX11_hears_363 : decode cX11_hears 363 = .ok (.aload_n 0, 1) := by decide +kernel
theorem dX11_hears_364 : decode cX11_hears 364 = .ok (.getfield 56, 3) := by decide +kernel
theorem dX11_hears_367 : decode cX11_hears 367 = .ok (.sipush 600, 3) := by decide +kernel
theorem dX11_hears_370 : decode cX11_hears 370 = .ok (.iload 4, 2) := by decide +kernel
theorem dX11_hears_372 : decode cX11_hears 372 = .ok (.imul, 1) := by decide +kernel
theorem dX11_hears_373 : decode cX11_hears 373 = .ok (.iload_n 3, 1) := by decide +kernel
theorem dX11_hears_374 : decode cX11_hears 374 = .ok (.iadd, 1) := by decide +kernel
theorem dX11_hears_375 : decode cX11_hears 375 = .ok (.iload 6, 2) := by decide +kernel
theorem dX11_hears_377 : decode cX11_hears 377 = .ok (.iadd, 1) := by decide +kernel
theorem dX11_hears_378 : decode cX11_hears 378 = .ok (.aload_n 0, 1) := by decide +kernel
theorem dX11_hears_379 : decode cX11_hears 379 = .ok (.getfield 32, 3) := by decide +kernel
theorem dX11_hears_382 : decode cX11_hears 382 = .ok (.iload 6, 2) := by decide +kernel
theorem dX11_hears_384 : decode cX11_hears 384 = .ok (.iaload, 1) := by decide +kernel
theorem dX11_hears_385 : decode cX11_hears 385 = .ok (.iastore, 1) := by decide +kernel
theorem dX11_hears_386 : decode cX11_hears 386 = .ok (.iinc 6 1, 3) := by decide +kernel
theorem dX11_hears_389 : decode cX11_hears 389 = .ok (.goto (-35), 3) := by decide +kernel
theorem dX11_hears_392 : decode cX11_hears 392 = .ok (.iconst 0, 1) := by decide +kernel
theorem dX11_hears_393 : decode cX11_hears 393 = .ok (.istore 6, 2) := by decide +kernel
theorem dX11_hears_395 : decode cX11_hears 395 = .ok (.iconst 0, 1) := by decide +kernel
theorem dX11_hears_396 : decode cX11_hears 396 = .ok (.istore 7, 2) := by decide +kernel
theorem dX11_hears_398 : decode cX11_hears 398 = .ok (.iload 7, 2) := by decide +kernel
theorem dX11_hears_400 : decode cX11_hears 400 = .ok (.aload_n 0, 1) := by decide +kernel
theorem dX11_hears_401 : decode cX11_hears 401 = .ok (.getfield 59, 3) := by decide +kernel
theorem dX11_hears_404 : decode cX11_hears 404 = .ok (.iload 4, 2) := by decide +kernel
theorem dX11_hears_406 : decode cX11_hears 406 = .ok (.iaload, 1) := by decide +kernel
theorem dX11_hears_407 : decode cX11_hears 407 = .ok (.if_icmp .ge 27, 3) := by decide +kernel
theorem dX11_hears_410 : decode cX11_hears 410 = .ok (.iload 6, 2) := by decide +kernel
theorem dX11_hears_412 : decode cX11_hears 412 = .ok (.aload_n 0, 1) := by decide +kernel
theorem dX11_hears_413 : decode cX11_hears 413 = .ok (.getfield 65, 3) := by decide +kernel
theorem dX11_hears_416 : decode cX11_hears 416 = .ok (.bipush 100, 2) := by decide +kernel
theorem dX11_hears_418 : decode cX11_hears 418 = .ok (.iload 4, 2) := by decide +kernel
theorem dX11_hears_420 : decode cX11_hears 420 = .ok (.imul, 1) := by decide +kernel
theorem dX11_hears_421 : decode cX11_hears 421 = .ok (.iload 7, 2) := by decide +kernel
theorem dX11_hears_423 : decode cX11_hears 423 = .ok (.iadd, 1) := by decide +kernel
theorem dX11_hears_424 : decode cX11_hears 424 = .ok (.iaload, 1) := by decide +kernel
theorem dX11_hears_425 : decode cX11_hears 425 = .ok (.iadd, 1) := by decide +kernel
theorem dX11_hears_426 : decode cX11_hears 426 = .ok (.istore 6, 2) := by decide +kernel
theorem dX11_hears_428 : decode cX11_hears 428 = .ok (.iinc 7 1, 3) := by decide +kernel
theorem dX11_hears_431 : decode cX11_hears 431 = .ok (.goto (-33), 3) := by decide +kernel
theorem dX11_hears_434 : decode cX11_hears 434 = .ok (.iload 6, 2) := by decide +kernel
theorem dX11_hears_436 : decode cX11_hears 436 = .ok (.iload_n 1, 1) := by decide +kernel
theorem dX11_hears_437 : decode cX11_hears 437 = .ok (.if_icmp .ge 5, 3) := by decide +kernel
theorem dX11_hears_440 : decode cX11_hears 440 = .ok (.iconst 1, 1) := by decide +kernel
theorem dX11_hears_441 : decode cX11_hears 441 = .ok (.ireturn, 1) := by decide +kernel
theorem dX11_hears_442 : decode cX11_hears 442 = .ok (.iconst 0, 1) := by decide +kernel
theorem dX11_hears_443 : decode cX11_hears 443 = .ok (.istore 7, 2) := by decide +kernel
theorem dX11_hears_445 : decode cX11_hears 445 = .ok (.iload 7, 2) := by decide +kernel
theorem dX11_hears_447 : decode cX11_hears 447 = .ok (.iload_n 1, 1) := by decide +kernel
theorem dX11_hears_448 : decode cX11_hears 448 = .ok (.if_icmp .ge 30, 3) := by decide +kernel
theorem dX11_hears_451 : decode cX11_hears 451 = .ok (.aload_n 0, 1) := by decide +kernel
theorem dX11_hears_452 : decode cX11_hears 452 = .ok (.getfield 23, 3) := by decide +kernel
theorem dX11_hears_455 : decode cX11_hears 455 = .ok (.iload 7, 2) := by decide +kernel
theorem dX11_hears_457 : decode cX11_hears 457 = .ok (.aload_n 0, 1) := by decide +kernel
theorem dX11_hears_458 : decode cX11_hears 458 = .ok (.getfield 56, 3) := by decide +kernel
theorem dX11_hears_461 : decode cX11_hears 461 = .ok (.sipush 600, 3) := by decide +kernel
theorem dX11_hears_464 : decode cX11_hears 464 = .ok (.iload 4, 2) := by decide +kernel
theorem dX11_hears_466 : decode cX11_hears 466 = .ok (.imul, 1) := by decide +kernel
theorem dX11_hears_467 : decode cX11_hears 467 = .ok (.iload 7, 2) := by decide +kernel
theorem dX11_hears_469 : decode cX11_hears 469 = .ok (.iadd, 1) := by decide +kernel
theorem dX11_hears_470 : decode cX11_hears 470 = .ok (.iaload, 1) := by decide +kernel
theorem dX11_hears_471 : decode cX11_hears 471 = .ok (.iastore, 1) := by decide +kernel
theorem dX11_hears_472 : decode cX11_hears 472 = .ok (.iinc 7 1, 3) := by decide +kernel
theorem dX11_hears_475 : decode cX11_hears 475 = .ok (.goto (-30), 3) := by decide +kernel
theorem dX11_hears_478 : decode cX11_hears 478 = .ok (.aload_n 0, 1) := by decide +kernel
theorem dX11_hears_479 : decode cX11_hears 479 = .ok (.iload_n 1, 1) := by decide +kernel
theorem dX11_hears_480 : decode cX11_hears 480 = .ok (.putfield 91, 3) := by decide +kernel
theorem dX11_hears_483 : decode cX11_hears 483 = .ok (.aload_n 0, 1) := by decide +kernel
theorem dX11_hears_484 : decode cX11_hears 484 = .ok (.iload 4, 2) := by decide +kernel
theorem dX11_hears_486 : decode cX11_hears 486 = .ok (.invokevirtual 272, 3) := by decide +kernel
theorem dX11_hears_489 : decode cX11_hears 489 = .ok (.aload_n 0, 1) := by decide +kernel
theorem dX11_hears_490 : decode cX11_hears 490 = .ok (.dup, 1) := by decide +kernel
theorem dX11_hears_491 : decode cX11_hears 491 = .ok (.getfield 262, 3) := by decide +kernel
theorem dX11_hears_494 : decode cX11_hears 494 = .ok (.iconst 1, 1) := by decide +kernel
theorem dX11_hears_495 : decode cX11_hears 495 = .ok (.iadd, 1) := by decide +kernel
theorem dX11_hears_496 : decode cX11_hears 496 = .ok (.putfield 262, 3) := by decide +kernel
theorem dX11_hears_499 : decode cX11_hears 499 = .ok (.iconst 2, 1) := by decide +kernel
theorem dX11_hears_500 : decode cX11_hears 500 = .ok (.ireturn, 1) := by decide +kernel
theorem dX11_pass_0 : decode cX11_pass 0 = .ok (.iload_n 1, 1) := by decide +kernel
theorem dX11_pass_1 : decode cX11_pass 1 = .ok (.iconst 0, 1) := by decide +kernel
theorem dX11_pass_2 : decode cX11_pass 2 = .ok (.sipush 1000, 3) := by decide +kernel
theorem dX11_pass_5 : decode cX11_pass 5 = .ok (.invokestatic 72, 3) := by decide +kernel
theorem dX11_pass_8 : decode cX11_pass 8 = .ok (.ifCond .ne 5, 3) := by decide +kernel
theorem dX11_pass_11 : decode cX11_pass 11 = .ok (.iconst (-1), 1) := by decide +kernel
theorem dX11_pass_12 : decode cX11_pass 12 = .ok (.ireturn, 1) := by decide +kernel
theorem dX11_pass_13 : decode cX11_pass 13 = .ok (.aload_n 0, 1) := by decide +kernel
theorem dX11_pass_14 : decode cX11_pass 14 = .ok (.dup, 1) := by decide +kernel
theorem dX11_pass_15 : decode cX11_pass 15 = .ok (.getfield 269, 3) := by decide +kernel
theorem dX11_pass_18 : decode cX11_pass 18 = .ok (.iload_n 1, 1) := by decide +kernel
theorem dX11_pass_19 : decode cX11_pass 19 = .ok (.iadd, 1) := by decide +kernel
theorem dX11_pass_20 : decode cX11_pass 20 = .ok (.putfield 269, 3) := by decide +kernel
theorem dX11_pass_23 : decode cX11_pass 23 = .ok (.aload_n 0, 1) := by decide +kernel
theorem dX11_pass_24 : decode cX11_pass 24 = .ok (.getfield 269, 3) := by decide +kernel
theorem dX11_pass_27 : decode cX11_pass 27 = .ok (.ireturn, 1) := by decide +kernel
theorem dX11_count_0 : decode cX11_count 0 = .ok (.iconst 0, 1) := by decide +kernel
theorem dX11_count_1 : decode cX11_count 1 = .ok (.istore_n 2, 1) := by decide +kernel
theorem dX11_count_2 : decode cX11_count 2 = .ok (.iload_n 1, 1) := by decide +kernel
theorem dX11_count_3 : decode cX11_count 3 = .ok (.tableswitch 146 0 8 #[49, 54, 54, 116, 121, 126, 131, 136, 141], 49) := by decide +kernel
theorem dX11_count_52 : decode cX11_count 52 = .ok (.aload_n 0, 1) := by decide +kernel
theorem dX11_count_53 : decode cX11_count 53 = .ok (.getfield 250, 3) := by decide +kernel
theorem dX11_count_56 : decode cX11_count 56 = .ok (.ireturn, 1) := by decide +kernel
theorem dX11_count_57 : decode cX11_count 57 = .ok (.iconst 0, 1) := by decide +kernel
theorem dX11_count_58 : decode cX11_count 58 = .ok (.istore_n 3, 1) := by decide +kernel
theorem dX11_count_59 : decode cX11_count 59 = .ok (.iload_n 3, 1) := by decide +kernel
theorem dX11_count_60 : decode cX11_count 60 = .ok (.aload_n 0, 1) := by decide +kernel
theorem dX11_count_61 : decode cX11_count 61 = .ok (.getfield 250, 3) := by decide +kernel
theorem dX11_count_64 : decode cX11_count 64 = .ok (.if_icmp .ge 53, 3) := by decide +kernel
theorem dX11_count_67 : decode cX11_count 67 = .ok (.iconst 0, 1) := by decide +kernel
theorem dX11_count_68 : decode cX11_count 68 = .ok (.istore 4, 2) := by decide +kernel
theorem dX11_count_70 : decode cX11_count 70 = .ok (.iload 4, 2) := by decide +kernel
theorem dX11_count_72 : decode cX11_count 72 = .ok (.aload_n 0, 1) := by decide +kernel
theorem dX11_count_73 : decode cX11_count 73 = .ok (.getfield 59, 3) := by decide +kernel
theorem dX11_count_76 : decode cX11_count 76 = .ok (.iload_n 3, 1) := by decide +kernel
theorem dX11_count_77 : decode cX11_count 77 = .ok (.iaload, 1) := by decide +kernel
theorem dX11_count_78 : decode cX11_count 78 = .ok (.if_icmp .ge 33, 3) := by decide +kernel
theorem dX11_count_81 : decode cX11_count 81 = .ok (.iload_n 2, 1) := by decide +kernel
theorem dX11_count_82 : decode cX11_count 82 = .ok (.iload_n 1, 1) := by decide +kernel
theorem dX11_count_83 : decode cX11_count 83 = .ok (.iconst 1, 1) := by decide +kernel
theorem dX11_count_84 : decode cX11_count 84 = .ok (.if_icmp .ne 7, 3) := by decide +kernel
theorem dX11_count_87 : decode cX11_count 87 = .ok (.iconst 1, 1) := by decide +kernel
theorem dX11_count_88 : decode cX11_count 88 = .ok (.goto 15, 3) := by decide +kernel
theorem dX11_count_91 : decode cX11_count 91 = .ok (.aload_n 0, 1) := by decide +kernel
theorem dX11_count_92 : decode cX11_count 92 = .ok (.getfield 65, 3) := by decide +kernel
theorem dX11_count_95 : decode cX11_count 95 = .ok (.bipush 100, 2) := by decide +kernel
theorem dX11_count_97 : decode cX11_count 97 = .ok (.iload_n 3, 1) := by decide +kernel
theorem dX11_count_98 : decode cX11_count 98 = .ok (.imul, 1) := by decide +kernel
theorem dX11_count_99 : decode cX11_count 99 = .ok (.iload 4, 2) := by decide +kernel
theorem dX11_count_101 : decode cX11_count 101 = .ok (.iadd, 1) := by decide +kernel
theorem dX11_count_102 : decode cX11_count 102 = .ok (.iaload, 1) := by decide +kernel
theorem dX11_count_103 : decode cX11_count 103 = .ok (.iadd, 1) := by decide +kernel
theorem dX11_count_104 : decode cX11_count 104 = .ok (.istore_n 2, 1) := by decide +kernel
theorem dX11_count_105 : decode cX11_count 105 = .ok (.iinc 4 1, 3) := by decide +kernel
theorem dX11_count_108 : decode cX11_count 108 = .ok (.goto (-38), 3) := by decide +kernel
theorem dX11_count_111 : decode cX11_count 111 = .ok (.iinc 3 1, 3) := by decide +kernel
theorem dX11_count_114 : decode cX11_count 114 = .ok (.goto (-55), 3) := by decide +kernel
theorem dX11_count_117 : decode cX11_count 117 = .ok (.iload_n 2, 1) := by decide +kernel
theorem dX11_count_118 : decode cX11_count 118 = .ok (.ireturn, 1) := by decide +kernel
theorem dX11_count_119 : decode cX11_count 119 = .ok (.aload_n 0, 1) := by decide +kernel
theorem dX11_count_120 : decode cX11_count 120 = .ok (.getfield 240, 3) := by decide +kernel
theorem dX11_count_123 : decode cX11_count 123 = .ok (.ireturn, 1) := by decide +kernel
theorem dX11_count_124 : decode cX11_count 124 = .ok (.aload_n 0, 1) := by decide +kernel
theorem dX11_count_125 : decode cX11_count 125 = .ok (.getfield 262, 3) := by decide +kernel
theorem dX11_count_128 : decode cX11_count 128 = .ok (.ireturn, 1) := by decide +kernel
theorem dX11_count_129 : decode cX11_count 129 = .ok (.aload_n 0, 1) := by decide +kernel
theorem dX11_count_130 : decode cX11_count 130 = .ok (.getfield 253, 3) := by decide +kernel
theorem dX11_count_133 : decode cX11_count 133 = .ok (.ireturn, 1) := by decide +kernel
theorem dX11_count_134 : decode cX11_count 134 = .ok (.aload_n 0, 1) := by decide +kernel
theorem dX11_count_135 : decode cX11_count 135 = .ok (.getfield 275, 3) := by decide +kernel
theorem dX11_count_138 : decode cX11_count 138 = .ok (.ireturn, 1) := by decide +kernel
theorem dX11_count_139 : decode cX11_count 139 = .ok (.aload_n 0, 1) := by decide +kernel
theorem dX11_count_140 : decode cX11_count 140 = .ok (.getfield 278, 3) := by decide +kernel
theorem dX11_count_143 : decode cX11_count 143 = .ok (.ireturn, 1) := by decide +kernel
theorem dX11_count_144 : decode cX11_count 144 = .ok (.aload_n 0, 1) := by decide +kernel
theorem dX11_count_145 : decode cX11_count 145 = .ok (.getfield 269, 3) := by decide +kernel
theorem dX11_count_148 : decode cX11_count 148 = .ok (.ireturn, 1) := by decide +kernel
theorem dX11_count_149 : decode cX11_count 149 = .ok (.iconst (-1), 1) := by decide +kernel
theorem dX11_count_150 : decode cX11_count 150 = .ok (.ireturn, 1) := by decide +kernel
theorem dL_law_0 : decode cL_law 0 = .ok (.new 7, 3) := by decide +kernel
theorem dL_law_3 : decode cL_law 3 = .ok (.dup, 1) := by decide +kernel
theorem dL_law_4 : decode cL_law 4 = .ok (.invokespecial 9, 3) := by decide +kernel
theorem dL_law_7 : decode cL_law 7 = .ok (.astore_n 1, 1) := by decide +kernel
theorem dL_law_8 : decode cL_law 8 = .ok (.new 10, 3) := by decide +kernel
theorem dL_law_11 : decode cL_law 11 = .ok (.dup, 1) := by decide +kernel
theorem dL_law_12 : decode cL_law 12 = .ok (.invokespecial 12, 3) := by decide +kernel
theorem dL_law_15 : decode cL_law 15 = .ok (.astore_n 2, 1) := by decide +kernel
theorem dL_law_16 : decode cL_law 16 = .ok (.iconst 0, 1) := by decide +kernel
theorem dL_law_17 : decode cL_law 17 = .ok (.istore_n 3, 1) := by decide +kernel
theorem dL_law_18 : decode cL_law 18 = .ok (.iload_n 3, 1) := by decide +kernel
theorem dL_law_19 : decode cL_law 19 = .ok (.aload_n 0, 1) := by decide +kernel
theorem dL_law_20 : decode cL_law 20 = .ok (.arraylength, 1) := by decide +kernel
theorem dL_law_21 : decode cL_law 21 = .ok (.bipush 14, 2) := by decide +kernel
theorem dL_law_23 : decode cL_law 23 = .ok (.isub, 1) := by decide +kernel
theorem dL_law_24 : decode cL_law 24 = .ok (.if_icmp .gt 924, 3) := by decide +kernel
theorem dL_law_27 : decode cL_law 27 = .ok (.aload_n 0, 1) := by decide +kernel
theorem dL_law_28 : decode cL_law 28 = .ok (.iload_n 3, 1) := by decide +kernel
theorem dL_law_29 : decode cL_law 29 = .ok (.iaload, 1) := by decide +kernel
theorem dL_law_30 : decode cL_law 30 = .ok (.bipush 31, 2) := by decide +kernel
theorem dL_law_32 : decode cL_law 32 = .ok (.iand, 1) := by decide +kernel
theorem dL_law_33 : decode cL_law 33 = .ok (.tableswitch 909 0 17 #[87, 176, 265, 328, 567, 590, 623, 636, 659, 672, 685, 708, 741, 774, 817, 840, 863, 886], 87) := by decide +kernel
theorem dL_law_120 : decode cL_law 120 = .ok (.aload_n 1, 1) := by decide +kernel
theorem dL_law_121 : decode cL_law 121 = .ok (.aload_n 0, 1) := by decide +kernel
theorem dL_law_122 : decode cL_law 122 = .ok (.iload_n 3, 1) := by decide +kernel
theorem dL_law_123 : decode cL_law 123 = .ok (.iconst 1, 1) := by decide +kernel
theorem dL_law_124 : decode cL_law 124 = .ok (.iadd, 1) := by decide +kernel
theorem dL_law_125 : decode cL_law 125 = .ok (.iaload, 1) := by decide +kernel
theorem dL_law_126 : decode cL_law 126 = .ok (.aload_n 0, 1) := by decide +kernel
theorem dL_law_127 : decode cL_law 127 = .ok (.iload_n 3, 1) := by decide +kernel
theorem dL_law_128 : decode cL_law 128 = .ok (.iconst 2, 1) := by decide +kernel
theorem dL_law_129 : decode cL_law 129 = .ok (.iadd, 1) := by decide +kernel
theorem dL_law_130 : decode cL_law 130 = .ok (.iaload, 1) := by decide +kernel
theorem dL_law_131 : decode cL_law 131 = .ok (.ifCond .eq 7, 3) := by decide +kernel
theorem dL_law_134 : decode cL_law 134 = .ok (.iconst 1, 1) := by decide +kernel
theorem dL_law_135 : decode cL_law 135 = .ok (.goto 4, 3) := by decide +kernel
theorem dL_law_138 : decode cL_law 138 = .ok (.iconst 0, 1) := by decide +kernel
theorem dL_law_139 : decode cL_law 139 = .ok (.aload_n 0, 1) := by decide +kernel
theorem dL_law_140 : decode cL_law 140 = .ok (.iload_n 3, 1) := by decide +kernel
theorem dL_law_141 : decode cL_law 141 = .ok (.iconst 3, 1) := by decide +kernel
theorem dL_law_142 : decode cL_law 142 = .ok (.iadd, 1) := by decide +kernel
theorem dL_law_143 : decode cL_law 143 = .ok (.iaload, 1) := by decide +kernel
theorem dL_law_144 : decode cL_law 144 = .ok (.i2l, 1) := by decide +kernel
theorem dL_law_145 : decode cL_law 145 = .ok (.bipush 32, 2) := by decide +kernel
theorem dL_law_147 : decode cL_law 147 = .ok (.lshl, 1) := by decide +kernel
theorem dL_law_148 : decode cL_law 148 = .ok (.aload_n 0, 1) := by decide +kernel
theorem dL_law_149 : decode cL_law 149 = .ok (.iload_n 3, 1) := by decide +kernel
theorem dL_law_150 : decode cL_law 150 = .ok (.iconst 4, 1) := by decide +kernel
theorem dL_law_151 : decode cL_law 151 = .ok (.iadd, 1) := by decide +kernel
theorem dL_law_152 : decode cL_law 152 = .ok (.iaload, 1) := by decide +kernel
theorem dL_law_153 : decode cL_law 153 = .ok (.i2l, 1) := by decide +kernel
theorem dL_law_154 : decode cL_law 154 = .ok (.ldc2_w 13, 3) := by decide +kernel
theorem dL_law_157 : decode cL_law 157 = .ok (.land, 1) := by decide +kernel
theorem dL_law_158 : decode cL_law 158 = .ok (.lor, 1) := by decide +kernel
theorem dL_law_159 : decode cL_law 159 = .ok (.invokevirtual 15, 3) := by decide +kernel
theorem dL_law_162 : decode cL_law 162 = .ok (.aload_n 2, 1) := by decide +kernel
theorem dL_law_163 : decode cL_law 163 = .ok (.aload_n 0, 1) := by decide +kernel
theorem dL_law_164 : decode cL_law 164 = .ok (.iload_n 3, 1) := by decide +kernel
theorem dL_law_165 : decode cL_law 165 = .ok (.iconst 1, 1) := by decide +kernel
theorem dL_law_166 : decode cL_law 166 = .ok (.iadd, 1) := by decide +kernel
theorem dL_law_167 : decode cL_law 167 = .ok (.iaload, 1) := by decide +kernel
theorem dL_law_168 : decode cL_law 168 = .ok (.aload_n 0, 1) := by decide +kernel
theorem dL_law_169 : decode cL_law 169 = .ok (.iload_n 3, 1) := by decide +kernel
theorem dL_law_170 : decode cL_law 170 = .ok (.iconst 2, 1) := by decide +kernel
theorem dL_law_171 : decode cL_law 171 = .ok (.iadd, 1) := by decide +kernel
theorem dL_law_172 : decode cL_law 172 = .ok (.iaload, 1) := by decide +kernel
theorem dL_law_173 : decode cL_law 173 = .ok (.ifCond .eq 7, 3) := by decide +kernel
theorem dL_law_176 : decode cL_law 176 = .ok (.iconst 1, 1) := by decide +kernel
theorem dL_law_177 : decode cL_law 177 = .ok (.goto 4, 3) := by decide +kernel
theorem dL_law_180 : decode cL_law 180 = .ok (.iconst 0, 1) := by decide +kernel
theorem dL_law_181 : decode cL_law 181 = .ok (.aload_n 0, 1) := by decide +kernel
theorem dL_law_182 : decode cL_law 182 = .ok (.iload_n 3, 1) := by decide +kernel
theorem dL_law_183 : decode cL_law 183 = .ok (.iconst 3, 1) := by decide +kernel
theorem dL_law_184 : decode cL_law 184 = .ok (.iadd, 1) := by decide +kernel
theorem dL_law_185 : decode cL_law 185 = .ok (.iaload, 1) := by decide +kernel
theorem dL_law_186 : decode cL_law 186 = .ok (.i2l, 1) := by decide +kernel
theorem dL_law_187 : decode cL_law 187 = .ok (.bipush 32, 2) := by decide +kernel
theorem dL_law_189 : decode cL_law 189 = .ok (.lshl, 1) := by decide +kernel
theorem dL_law_190 : decode cL_law 190 = .ok (.aload_n 0, 1) := by decide +kernel
theorem dL_law_191 : decode cL_law 191 = .ok (.iload_n 3, 1) := by decide +kernel
theorem dL_law_192 : decode cL_law 192 = .ok (.iconst 4, 1) := by decide +kernel
theorem dL_law_193 : decode cL_law 193 = .ok (.iadd, 1) := by decide +kernel
theorem dL_law_194 : decode cL_law 194 = .ok (.iaload, 1) := by decide +kernel
theorem dL_law_195 : decode cL_law 195 = .ok (.i2l, 1) := by decide +kernel
theorem dL_law_196 : decode cL_law 196 = .ok (.ldc2_w 13, 3) := by decide +kernel
theorem dL_law_199 : decode cL_law 199 = .ok (.land, 1) := by decide +kernel
theorem dL_law_200 : decode cL_law 200 = .ok (.lor, 1) := by decide +kernel
theorem dL_law_201 : decode cL_law 201 = .ok (.invokevirtual 19, 3) := by decide +kernel
theorem dL_law_204 : decode cL_law 204 = .ok (.if_icmp .eq 738, 3) := by decide +kernel
theorem dL_law_207 : decode cL_law 207 = .ok (.iconst 0, 1) := by decide +kernel
theorem dL_law_208 : decode cL_law 208 = .ok (.ireturn, 1) := by decide +kernel
theorem dL_law_209 : decode cL_law 209 = .ok (.aload_n 1, 1) := by decide +kernel
theorem dL_law_210 : decode cL_law 210 = .ok (.aload_n 0, 1) := by decide +kernel
theorem dL_law_211 : decode cL_law 211 = .ok (.iload_n 3, 1) := by decide +kernel
theorem dL_law_212 : decode cL_law 212 = .ok (.iconst 1, 1) := by decide +kernel
theorem dL_law_213 : decode cL_law 213 = .ok (.iadd, 1) := by decide +kernel
theorem dL_law_214 : decode cL_law 214 = .ok (.iaload, 1) := by decide +kernel
theorem dL_law_215 : decode cL_law 215 = .ok (.aload_n 0, 1) := by decide +kernel
theorem dL_law_216 : decode cL_law 216 = .ok (.iload_n 3, 1) := by decide +kernel
theorem dL_law_217 : decode cL_law 217 = .ok (.iconst 2, 1) := by decide +kernel
theorem dL_law_218 : decode cL_law 218 = .ok (.iadd, 1) := by decide +kernel
theorem dL_law_219 : decode cL_law 219 = .ok (.iaload, 1) := by decide +kernel
theorem dL_law_220 : decode cL_law 220 = .ok (.ifCond .eq 7, 3) := by decide +kernel
theorem dL_law_223 : decode cL_law 223 = .ok (.iconst 1, 1) := by decide +kernel
theorem dL_law_224 : decode cL_law 224 = .ok (.goto 4, 3) := by decide +kernel
theorem dL_law_227 : decode cL_law 227 = .ok (.iconst 0, 1) := by decide +kernel
theorem dL_law_228 : decode cL_law 228 = .ok (.aload_n 0, 1) := by decide +kernel
theorem dL_law_229 : decode cL_law 229 = .ok (.iload_n 3, 1) := by decide +kernel
theorem dL_law_230 : decode cL_law 230 = .ok (.iconst 3, 1) := by decide +kernel
theorem dL_law_231 : decode cL_law 231 = .ok (.iadd, 1) := by decide +kernel
theorem dL_law_232 : decode cL_law 232 = .ok (.iaload, 1) := by decide +kernel
theorem dL_law_233 : decode cL_law 233 = .ok (.i2l, 1) := by decide +kernel
theorem dL_law_234 : decode cL_law 234 = .ok (.bipush 32, 2) := by decide +kernel
theorem dL_law_236 : decode cL_law 236 = .ok (.lshl, 1) := by decide +kernel
theorem dL_law_237 : decode cL_law 237 = .ok (.aload_n 0, 1) := by decide +kernel
theorem dL_law_238 : decode cL_law 238 = .ok (.iload_n 3, 1) := by decide +kernel
theorem dL_law_239 : decode cL_law 239 = .ok (.iconst 4, 1) := by decide +kernel
theorem dL_law_240 : decode cL_law 240 = .ok (.iadd, 1) := by decide +kernel
theorem dL_law_241 : decode cL_law 241 = .ok (.iaload, 1) := by decide +kernel
theorem dL_law_242 : decode cL_law 242 = .ok (.i2l, 1) := by decide +kernel
theorem dL_law_243 : decode cL_law 243 = .ok (.ldc2_w 13, 3) := by decide +kernel
theorem dL_law_246 : decode cL_law 246 = .ok (.land, 1) := by decide +kernel
theorem dL_law_247 : decode cL_law 247 = .ok (.lor, 1) := by decide +kernel
theorem dL_law_248 : decode cL_law 248 = .ok (.invokevirtual 20, 3) := by decide +kernel
theorem dL_law_251 : decode cL_law 251 = .ok (.aload_n 2, 1) := by decide +kernel
theorem dL_law_252 : decode cL_law 252 = .ok (.aload_n 0, 1) := by decide +kernel
theorem dL_law_253 : decode cL_law 253 = .ok (.iload_n 3, 1) := by decide +kernel
theorem dL_law_254 : decode cL_law 254 = .ok (.iconst 1, 1) := by decide +kernel
theorem dL_law_255 : decode cL_law 255 = .ok (.iadd, 1) := by decide +kernel
theorem dL_law_256 : decode cL_law 256 = .ok (.iaload, 1) := by decide +kernel
theorem dL_law_257 : decode cL_law 257 = .ok (.aload_n 0, 1) := by decide +kernel
theorem dL_law_258 : decode cL_law 258 = .ok (.iload_n 3, 1) := by decide +kernel
theorem dL_law_259 : decode cL_law 259 = .ok (.iconst 2, 1) := by decide +kernel
theorem dL_law_260 : decode cL_law 260 = .ok (.iadd, 1) := by decide +kernel
theorem dL_law_261 : decode cL_law 261 = .ok (.iaload, 1) := by decide +kernel
theorem dL_law_262 : decode cL_law 262 = .ok (.ifCond .eq 7, 3) := by decide +kernel
theorem dL_law_265 : decode cL_law 265 = .ok (.iconst 1, 1) := by decide +kernel
theorem dL_law_266 : decode cL_law 266 = .ok (.goto 4, 3) := by decide +kernel
theorem dL_law_269 : decode cL_law 269 = .ok (.iconst 0, 1) := by decide +kernel
theorem dL_law_270 : decode cL_law 270 = .ok (.aload_n 0, 1) := by decide +kernel
theorem dL_law_271 : decode cL_law 271 = .ok (.iload_n 3, 1) := by decide +kernel
theorem dL_law_272 : decode cL_law 272 = .ok (.iconst 3, 1) := by decide +kernel
theorem dL_law_273 : decode cL_law 273 = .ok (.iadd, 1) := by decide +kernel
theorem dL_law_274 : decode cL_law 274 = .ok (.iaload, 1) := by decide +kernel
theorem dL_law_275 : decode cL_law 275 = .ok (.i2l, 1) := by decide +kernel
theorem dL_law_276 : decode cL_law 276 = .ok (.bipush 32, 2) := by decide +kernel
theorem dL_law_278 : decode cL_law 278 = .ok (.lshl, 1) := by decide +kernel
theorem dL_law_279 : decode cL_law 279 = .ok (.aload_n 0, 1) := by decide +kernel
theorem dL_law_280 : decode cL_law 280 = .ok (.iload_n 3, 1) := by decide +kernel
theorem dL_law_281 : decode cL_law 281 = .ok (.iconst 4, 1) := by decide +kernel
theorem dL_law_282 : decode cL_law 282 = .ok (.iadd, 1) := by decide +kernel
theorem dL_law_283 : decode cL_law 283 = .ok (.iaload, 1) := by decide +kernel
theorem dL_law_284 : decode cL_law 284 = .ok (.i2l, 1) := by decide +kernel
theorem dL_law_285 : decode cL_law 285 = .ok (.ldc2_w 13, 3) := by decide +kernel
theorem dL_law_288 : decode cL_law 288 = .ok (.land, 1) := by decide +kernel
theorem dL_law_289 : decode cL_law 289 = .ok (.lor, 1) := by decide +kernel
theorem dL_law_290 : decode cL_law 290 = .ok (.invokevirtual 23, 3) := by decide +kernel
theorem dL_law_293 : decode cL_law 293 = .ok (.if_icmp .eq 649, 3) := by decide +kernel
theorem dL_law_296 : decode cL_law 296 = .ok (.iconst 0, 1) := by decide +kernel
theorem dL_law_297 : decode cL_law 297 = .ok (.ireturn, 1) := by decide +kernel
theorem dL_law_298 : decode cL_law 298 = .ok (.aload_n 1, 1) := by decide +kernel
theorem dL_law_299 : decode cL_law 299 = .ok (.aload_n 0, 1) := by decide +kernel
theorem dL_law_300 : decode cL_law 300 = .ok (.iload_n 3, 1) := by decide +kernel
theorem dL_law_301 : decode cL_law 301 = .ok (.iconst 1, 1) := by decide +kernel
theorem dL_law_302 : decode cL_law 302 = .ok (.iadd, 1) := by decide +kernel
theorem dL_law_303 : decode cL_law 303 = .ok (.iaload, 1) := by decide +kernel
theorem dL_law_304 : decode cL_law 304 = .ok (.i2l, 1) := by decide +kernel
theorem dL_law_305 : decode cL_law 305 = .ok (.bipush 32, 2) := by decide +kernel
theorem dL_law_307 : decode cL_law 307 = .ok (.lshl, 1) := by decide +kernel
theorem dL_law_308 : decode cL_law 308 = .ok (.aload_n 0, 1) := by decide +kernel
theorem dL_law_309 : decode cL_law 309 = .ok (.iload_n 3, 1) := by decide +kernel
theorem dL_law_310 : decode cL_law 310 = .ok (.iconst 2, 1) := by decide +kernel
theorem dL_law_311 : decode cL_law 311 = .ok (.iadd, 1) := by decide +kernel
theorem dL_law_312 : decode cL_law 312 = .ok (.iaload, 1) := by decide +kernel
theorem dL_law_313 : decode cL_law 313 = .ok (.i2l, 1) := by decide +kernel
theorem dL_law_314 : decode cL_law 314 = .ok (.ldc2_w 13, 3) := by decide +kernel
theorem dL_law_317 : decode cL_law 317 = .ok (.land, 1) := by decide +kernel
theorem dL_law_318 : decode cL_law 318 = .ok (.lor, 1) := by decide +kernel
theorem dL_law_319 : decode cL_law 319 = .ok (.aload_n 0, 1) := by decide +kernel
theorem dL_law_320 : decode cL_law 320 = .ok (.iload_n 3, 1) := by decide +kernel
theorem dL_law_321 : decode cL_law 321 = .ok (.iconst 3, 1) := by decide +kernel
theorem dL_law_322 : decode cL_law 322 = .ok (.iadd, 1) := by decide +kernel
theorem dL_law_323 : decode cL_law 323 = .ok (.iaload, 1) := by decide +kernel
theorem dL_law_324 : decode cL_law 324 = .ok (.invokevirtual 24, 3) := by decide +kernel
theorem dL_law_327 : decode cL_law 327 = .ok (.aload_n 2, 1) := by decide +kernel
theorem dL_law_328 : decode cL_law 328 = .ok (.aload_n 0, 1) := by decide +kernel
theorem dL_law_329 : decode cL_law 329 = .ok (.iload_n 3, 1) := by decide +kernel
theorem dL_law_330 : decode cL_law 330 = .ok (.iconst 1, 1) := by decide +kernel
theorem dL_law_331 : decode cL_law 331 = .ok (.iadd, 1) := by decide +kernel
theorem dL_law_332 : decode cL_law 332 = .ok (.iaload, 1) := by decide +kernel
theorem dL_law_333 : decode cL_law 333 = .ok (.i2l, 1) := by decide +kernel
theorem dL_law_334 : decode cL_law 334 = .ok (.bipush 32, 2) := by decide +kernel
theorem dL_law_336 : decode cL_law 336 = .ok (.lshl, 1) := by decide +kernel
theorem dL_law_337 : decode cL_law 337 = .ok (.aload_n 0, 1) := by decide +kernel
theorem dL_law_338 : decode cL_law 338 = .ok (.iload_n 3, 1) := by decide +kernel
theorem dL_law_339 : decode cL_law 339 = .ok (.iconst 2, 1) := by decide +kernel
theorem dL_law_340 : decode cL_law 340 = .ok (.iadd, 1) := by decide +kernel
theorem dL_law_341 : decode cL_law 341 = .ok (.iaload, 1) := by decide +kernel
theorem dL_law_342 : decode cL_law 342 = .ok (.i2l, 1) := by decide +kernel
theorem dL_law_343 : decode cL_law 343 = .ok (.ldc2_w 13, 3) := by decide +kernel
theorem dL_law_346 : decode cL_law 346 = .ok (.land, 1) := by decide +kernel
theorem dL_law_347 : decode cL_law 347 = .ok (.lor, 1) := by decide +kernel
theorem dL_law_348 : decode cL_law 348 = .ok (.aload_n 0, 1) := by decide +kernel
theorem dL_law_349 : decode cL_law 349 = .ok (.iload_n 3, 1) := by decide +kernel
theorem dL_law_350 : decode cL_law 350 = .ok (.iconst 3, 1) := by decide +kernel
theorem dL_law_351 : decode cL_law 351 = .ok (.iadd, 1) := by decide +kernel
theorem dL_law_352 : decode cL_law 352 = .ok (.iaload, 1) := by decide +kernel
theorem dL_law_353 : decode cL_law 353 = .ok (.invokevirtual 28, 3) := by decide +kernel
theorem dL_law_356 : decode cL_law 356 = .ok (.if_icmp .eq 586, 3) := by decide +kernel
theorem dL_law_359 : decode cL_law 359 = .ok (.iconst 0, 1) := by decide +kernel
theorem dL_law_360 : decode cL_law 360 = .ok (.ireturn, 1) := by decide +kernel
theorem dL_law_361 : decode cL_law 361 = .ok (.aload_n 1, 1) := by decide +kernel
theorem dL_law_362 : decode cL_law 362 = .ok (.aload_n 0, 1) := by decide +kernel
theorem dL_law_363 : decode cL_law 363 = .ok (.iload_n 3, 1) := by decide +kernel
theorem dL_law_364 : decode cL_law 364 = .ok (.iconst 1, 1) := by decide +kernel
theorem dL_law_365 : decode cL_law 365 = .ok (.iadd, 1) := by decide +kernel
theorem dL_law_366 : decode cL_law 366 = .ok (.iaload, 1) := by decide +kernel
theorem dL_law_367 : decode cL_law 367 = .ok (.aload_n 0, 1) := by decide +kernel
theorem dL_law_368 : decode cL_law 368 = .ok (.iload_n 3, 1) := by decide +kernel
theorem dL_law_369 : decode cL_law 369 = .ok (.iconst 2, 1) := by decide +kernel
theorem dL_law_370 : decode cL_law 370 = .ok (.iadd, 1) := by decide +kernel
theorem dL_law_371 : decode cL_law 371 = .ok (.iaload, 1) := by decide +kernel
theorem dL_law_372 : decode cL_law 372 = .ok (.aload_n 0, 1) := by decide +kernel
theorem dL_law_373 : decode cL_law 373 = .ok (.iload_n 3, 1) := by decide +kernel
theorem dL_law_374 : decode cL_law 374 = .ok (.iconst 3, 1) := by decide +kernel
theorem dL_law_375 : decode cL_law 375 = .ok (.iadd, 1) := by decide +kernel
theorem dL_law_376 : decode cL_law 376 = .ok (.iaload, 1) := by decide +kernel
theorem dL_law_377 : decode cL_law 377 = .ok (.aload_n 0, 1) := by decide +kernel
theorem dL_law_378 : decode cL_law 378 = .ok (.iload_n 3, 1) := by decide +kernel
theorem dL_law_379 : decode cL_law 379 = .ok (.iconst 4, 1) := by decide +kernel
theorem dL_law_380 : decode cL_law 380 = .ok (.iadd, 1) := by decide +kernel
theorem dL_law_381 : decode cL_law 381 = .ok (.iaload, 1) := by decide +kernel
theorem dL_law_382 : decode cL_law 382 = .ok (.aload_n 0, 1) := by decide +kernel
theorem dL_law_383 : decode cL_law 383 = .ok (.iload_n 3, 1) := by decide +kernel
theorem dL_law_384 : decode cL_law 384 = .ok (.iconst 5, 1) := by decide +kernel
theorem dL_law_385 : decode cL_law 385 = .ok (.iadd, 1) := by decide +kernel
theorem dL_law_386 : decode cL_law 386 = .ok (.iaload, 1) := by decide +kernel
theorem dL_law_387 : decode cL_law 387 = .ok (.aload_n 0, 1) := by decide +kernel
theorem dL_law_388 : decode cL_law 388 = .ok (.iload_n 3, 1) := by decide +kernel
theorem dL_law_389 : decode cL_law 389 = .ok (.bipush 6, 2) := by decide +kernel
theorem dL_law_391 : decode cL_law 391 = .ok (.iadd, 1) := by decide +kernel
theorem dL_law_392 : decode cL_law 392 = .ok (.iaload, 1) := by decide +kernel
theorem dL_law_393 : decode cL_law 393 = .ok (.i2l, 1) := by decide +kernel
theorem dL_law_394 : decode cL_law 394 = .ok (.bipush 32, 2) := by decide +kernel
theorem dL_law_396 : decode cL_law 396 = .ok (.lshl, 1) := by decide +kernel
theorem dL_law_397 : decode cL_law 397 = .ok (.aload_n 0, 1) := by decide +kernel
theorem dL_law_398 : decode cL_law 398 = .ok (.iload_n 3, 1) := by decide +kernel
theorem dL_law_399 : decode cL_law 399 = .ok (.bipush 7, 2) := by decide +kernel
theorem dL_law_401 : decode cL_law 401 = .ok (.iadd, 1) := by decide +kernel
theorem dL_law_402 : decode cL_law 402 = .ok (.iaload, 1) := by decide +kernel
theorem dL_law_403 : decode cL_law 403 = .ok (.i2l, 1) := by decide +kernel
theorem dL_law_404 : decode cL_law 404 = .ok (.ldc2_w 13, 3) := by decide +kernel
theorem dL_law_407 : decode cL_law 407 = .ok (.land, 1) := by decide +kernel
theorem dL_law_408 : decode cL_law 408 = .ok (.lor, 1) := by decide +kernel
theorem dL_law_409 : decode cL_law 409 = .ok (.aload_n 0, 1) := by decide +kernel
theorem dL_law_410 : decode cL_law 410 = .ok (.iload_n 3, 1) := by decide +kernel
theorem dL_law_411 : decode cL_law 411 = .ok (.bipush 8, 2) := by decide +kernel
theorem dL_law_413 : decode cL_law 413 = .ok (.iadd, 1) := by decide +kernel
theorem dL_law_414 : decode cL_law 414 = .ok (.iaload, 1) := by decide +kernel
theorem dL_law_415 : decode cL_law 415 = .ok (.i2l, 1) := by decide +kernel
theorem dL_law_416 : decode cL_law 416 = .ok (.bipush 32, 2) := by decide +kernel
theorem dL_law_418 : decode cL_law 418 = .ok (.lshl, 1) := by decide +kernel
theorem dL_law_419 : decode cL_law 419 = .ok (.aload_n 0, 1) := by decide +kernel
theorem dL_law_420 : decode cL_law 420 = .ok (.iload_n 3, 1) := by decide +kernel
theorem dL_law_421 : decode cL_law 421 = .ok (.bipush 9, 2) := by decide +kernel
theorem dL_law_423 : decode cL_law 423 = .ok (.iadd, 1) := by decide +kernel
theorem dL_law_424 : decode cL_law 424 = .ok (.iaload, 1) := by decide +kernel
theorem dL_law_425 : decode cL_law 425 = .ok (.i2l, 1) := by decide +kernel
theorem dL_law_426 : decode cL_law 426 = .ok (.ldc2_w 13, 3) := by decide +kernel
theorem dL_law_429 : decode cL_law 429 = .ok (.land, 1) := by decide +kernel
theorem dL_law_430 : decode cL_law 430 = .ok (.lor, 1) := by decide +kernel
theorem dL_law_431 : decode cL_law 431 = .ok (.aload_n 0, 1) := by decide +kernel
theorem dL_law_432 : decode cL_law 432 = .ok (.iload_n 3, 1) := by decide +kernel
theorem dL_law_433 : decode cL_law 433 = .ok (.bipush 10, 2) := by decide +kernel
theorem dL_law_435 : decode cL_law 435 = .ok (.iadd, 1) := by decide +kernel
theorem dL_law_436 : decode cL_law 436 = .ok (.iaload, 1) := by decide +kernel
theorem dL_law_437 : decode cL_law 437 = .ok (.i2l, 1) := by decide +kernel
theorem dL_law_438 : decode cL_law 438 = .ok (.bipush 32, 2) := by decide +kernel
theorem dL_law_440 : decode cL_law 440 = .ok (.lshl, 1) := by decide +kernel
theorem dL_law_441 : decode cL_law 441 = .ok (.aload_n 0, 1) := by decide +kernel
theorem dL_law_442 : decode cL_law 442 = .ok (.iload_n 3, 1) := by decide +kernel
theorem dL_law_443 : decode cL_law 443 = .ok (.bipush 11, 2) := by decide +kernel
theorem dL_law_445 : decode cL_law 445 = .ok (.iadd, 1) := by decide +kernel
theorem dL_law_446 : decode cL_law 446 = .ok (.iaload, 1) := by decide +kernel
theorem dL_law_447 : decode cL_law 447 = .ok (.i2l, 1) := by decide +kernel
theorem dL_law_448 : decode cL_law 448 = .ok (.ldc2_w 13, 3) := by decide +kernel
theorem dL_law_451 : decode cL_law 451 = .ok (.land, 1) := by decide +kernel
theorem dL_law_452 : decode cL_law 452 = .ok (.lor, 1) := by decide +kernel
theorem dL_law_453 : decode cL_law 453 = .ok (.aload_n 0, 1) := by decide +kernel
theorem dL_law_454 : decode cL_law 454 = .ok (.iload_n 3, 1) := by decide +kernel
theorem dL_law_455 : decode cL_law 455 = .ok (.bipush 12, 2) := by decide +kernel
theorem dL_law_457 : decode cL_law 457 = .ok (.iadd, 1) := by decide +kernel
theorem dL_law_458 : decode cL_law 458 = .ok (.iaload, 1) := by decide +kernel
theorem dL_law_459 : decode cL_law 459 = .ok (.i2l, 1) := by decide +kernel
theorem dL_law_460 : decode cL_law 460 = .ok (.bipush 32, 2) := by decide +kernel
theorem dL_law_462 : decode cL_law 462 = .ok (.lshl, 1) := by decide +kernel
theorem dL_law_463 : decode cL_law 463 = .ok (.aload_n 0, 1) := by decide +kernel
theorem dL_law_464 : decode cL_law 464 = .ok (.iload_n 3, 1) := by decide +kernel
theorem dL_law_465 : decode cL_law 465 = .ok (.bipush 13, 2) := by decide +kernel
theorem dL_law_467 : decode cL_law 467 = .ok (.iadd, 1) := by decide +kernel
theorem dL_law_468 : decode cL_law 468 = .ok (.iaload, 1) := by decide +kernel
theorem dL_law_469 : decode cL_law 469 = .ok (.i2l, 1) := by decide +kernel
theorem dL_law_470 : decode cL_law 470 = .ok (.ldc2_w 13, 3) := by decide +kernel
theorem dL_law_473 : decode cL_law 473 = .ok (.land, 1) := by decide +kernel
theorem dL_law_474 : decode cL_law 474 = .ok (.lor, 1) := by decide +kernel
theorem dL_law_475 : decode cL_law 475 = .ok (.invokevirtual 29, 3) := by decide +kernel
theorem dL_law_478 : decode cL_law 478 = .ok (.aload_n 2, 1) := by decide +kernel
theorem dL_law_479 : decode cL_law 479 = .ok (.aload_n 0, 1) := by decide +kernel
theorem dL_law_480 : decode cL_law 480 = .ok (.iload_n 3, 1) := by decide +kernel
theorem dL_law_481 : decode cL_law 481 = .ok (.iconst 1, 1) := by decide +kernel
theorem dL_law_482 : decode cL_law 482 = .ok (.iadd, 1) := by decide +kernel
theorem dL_law_483 : decode cL_law 483 = .ok (.iaload, 1) := by decide +kernel
theorem dL_law_484 : decode cL_law 484 = .ok (.aload_n 0, 1) := by decide +kernel
theorem dL_law_485 : decode cL_law 485 = .ok (.iload_n 3, 1) := by decide +kernel
theorem dL_law_486 : decode cL_law 486 = .ok (.iconst 2, 1) := by decide +kernel
theorem dL_law_487 : decode cL_law 487 = .ok (.iadd, 1) := by decide +kernel
theorem dL_law_488 : decode cL_law 488 = .ok (.iaload, 1) := by decide +kernel
theorem dL_law_489 : decode cL_law 489 = .ok (.aload_n 0, 1) := by decide +kernel
theorem dL_law_490 : decode cL_law 490 = .ok (.iload_n 3, 1) := by decide +kernel
theorem dL_law_491 : decode cL_law 491 = .ok (.iconst 3, 1) := by decide +kernel
theorem dL_law_492 : decode cL_law 492 = .ok (.iadd, 1) := by decide +kernel
theorem dL_law_493 : decode cL_law 493 = .ok (.iaload, 1) := by decide +kernel
theorem dL_law_494 : decode cL_law 494 = .ok (.aload_n 0, 1) := by decide +kernel
theorem dL_law_495 : decode cL_law 495 = .ok (.iload_n 3, 1) := by decide +kernel
theorem dL_law_496 : decode cL_law 496 = .ok (.iconst 4, 1) := by decide +kernel
theorem dL_law_497 : decode cL_law 497 = .ok (.iadd, 1) := by decide +kernel
theorem dL_law_498 : decode cL_law 498 = .ok (.iaload, 1) := by decide +kernel
theorem dL_law_499 : decode cL_law 499 = .ok (.aload_n 0, 1) := by decide +kernel
theorem dL_law_500 : decode cL_law 500 = .ok (.iload_n 3, 1) := by decide +kernel
theorem dL_law_501 : decode cL_law 501 = .ok (.iconst 5, 1) := by decide +kernel
theorem dL_law_502 : decode cL_law 502 = .ok (.iadd, 1) := by decide +kernel
theorem dL_law_503 : decode cL_law 503 = .ok (.iaload, 1) := by decide +kernel
theorem dL_law_504 : decode cL_law 504 = .ok (.aload_n 0, 1) := by decide +kernel
theorem dL_law_505 : decode cL_law 505 = .ok (.iload_n 3, 1) := by decide +kernel
theorem dL_law_506 : decode cL_law 506 = .ok (.bipush 6, 2) := by decide +kernel
theorem dL_law_508 : decode cL_law 508 = .ok (.iadd, 1) := by decide +kernel
theorem dL_law_509 : decode cL_law 509 = .ok (.iaload, 1) := by decide +kernel
theorem dL_law_510 : decode cL_law 510 = .ok (.i2l, 1) := by decide +kernel
theorem dL_law_511 : decode cL_law 511 = .ok (.bipush 32, 2) := by decide +kernel
theorem dL_law_513 : decode cL_law 513 = .ok (.lshl, 1) := by decide +kernel
theorem dL_law_514 : decode cL_law 514 = .ok (.aload_n 0, 1) := by decide +kernel
theorem dL_law_515 : decode cL_law 515 = .ok (.iload_n 3, 1) := by decide +kernel
theorem dL_law_516 : decode cL_law 516 = .ok (.bipush 7, 2) := by decide +kernel
theorem dL_law_518 : decode cL_law 518 = .ok (.iadd, 1) := by decide +kernel
theorem dL_law_519 : decode cL_law 519 = .ok (.iaload, 1) := by decide +kernel
theorem dL_law_520 : decode cL_law 520 = .ok (.i2l, 1) := by decide +kernel
theorem dL_law_521 : decode cL_law 521 = .ok (.ldc2_w 13, 3) := by decide +kernel
theorem dL_law_524 : decode cL_law 524 = .ok (.land, 1) := by decide +kernel
theorem dL_law_525 : decode cL_law 525 = .ok (.lor, 1) := by decide +kernel
theorem dL_law_526 : decode cL_law 526 = .ok (.aload_n 0, 1) := by decide +kernel
theorem dL_law_527 : decode cL_law 527 = .ok (.iload_n 3, 1) := by decide +kernel
theorem dL_law_528 : decode cL_law 528 = .ok (.bipush 8, 2) := by decide +kernel
theorem dL_law_530 : decode cL_law 530 = .ok (.iadd, 1) := by decide +kernel
theorem dL_law_531 : decode cL_law 531 = .ok (.iaload, 1) := by decide +kernel
theorem dL_law_532 : decode cL_law 532 = .ok (.i2l, 1) := by decide +kernel
theorem dL_law_533 : decode cL_law 533 = .ok (.bipush 32, 2) := by decide +kernel
theorem dL_law_535 : decode cL_law 535 = .ok (.lshl, 1) := by decide +kernel
theorem dL_law_536 : decode cL_law 536 = .ok (.aload_n 0, 1) := by decide +kernel
theorem dL_law_537 : decode cL_law 537 = .ok (.iload_n 3, 1) := by decide +kernel
theorem dL_law_538 : decode cL_law 538 = .ok (.bipush 9, 2) := by decide +kernel
theorem dL_law_540 : decode cL_law 540 = .ok (.iadd, 1) := by decide +kernel
theorem dL_law_541 : decode cL_law 541 = .ok (.iaload, 1) := by decide +kernel
theorem dL_law_542 : decode cL_law 542 = .ok (.i2l, 1) := by decide +kernel
theorem dL_law_543 : decode cL_law 543 = .ok (.ldc2_w 13, 3) := by decide +kernel
theorem dL_law_546 : decode cL_law 546 = .ok (.land, 1) := by decide +kernel
theorem dL_law_547 : decode cL_law 547 = .ok (.lor, 1) := by decide +kernel
theorem dL_law_548 : decode cL_law 548 = .ok (.aload_n 0, 1) := by decide +kernel
theorem dL_law_549 : decode cL_law 549 = .ok (.iload_n 3, 1) := by decide +kernel
theorem dL_law_550 : decode cL_law 550 = .ok (.bipush 10, 2) := by decide +kernel
theorem dL_law_552 : decode cL_law 552 = .ok (.iadd, 1) := by decide +kernel
theorem dL_law_553 : decode cL_law 553 = .ok (.iaload, 1) := by decide +kernel
theorem dL_law_554 : decode cL_law 554 = .ok (.i2l, 1) := by decide +kernel
theorem dL_law_555 : decode cL_law 555 = .ok (.bipush 32, 2) := by decide +kernel
theorem dL_law_557 : decode cL_law 557 = .ok (.lshl, 1) := by decide +kernel
theorem dL_law_558 : decode cL_law 558 = .ok (.aload_n 0, 1) := by decide +kernel
theorem dL_law_559 : decode cL_law 559 = .ok (.iload_n 3, 1) := by decide +kernel
theorem dL_law_560 : decode cL_law 560 = .ok (.bipush 11, 2) := by decide +kernel
theorem dL_law_562 : decode cL_law 562 = .ok (.iadd, 1) := by decide +kernel
theorem dL_law_563 : decode cL_law 563 = .ok (.iaload, 1) := by decide +kernel
theorem dL_law_564 : decode cL_law 564 = .ok (.i2l, 1) := by decide +kernel
theorem dL_law_565 : decode cL_law 565 = .ok (.ldc2_w 13, 3) := by decide +kernel
theorem dL_law_568 : decode cL_law 568 = .ok (.land, 1) := by decide +kernel
theorem dL_law_569 : decode cL_law 569 = .ok (.lor, 1) := by decide +kernel
theorem dL_law_570 : decode cL_law 570 = .ok (.aload_n 0, 1) := by decide +kernel
theorem dL_law_571 : decode cL_law 571 = .ok (.iload_n 3, 1) := by decide +kernel
theorem dL_law_572 : decode cL_law 572 = .ok (.bipush 12, 2) := by decide +kernel
theorem dL_law_574 : decode cL_law 574 = .ok (.iadd, 1) := by decide +kernel
theorem dL_law_575 : decode cL_law 575 = .ok (.iaload, 1) := by decide +kernel
theorem dL_law_576 : decode cL_law 576 = .ok (.i2l, 1) := by decide +kernel
theorem dL_law_577 : decode cL_law 577 = .ok (.bipush 32, 2) := by decide +kernel
theorem dL_law_579 : decode cL_law 579 = .ok (.lshl, 1) := by decide +kernel
theorem dL_law_580 : decode cL_law 580 = .ok (.aload_n 0, 1) := by decide +kernel
theorem dL_law_581 : decode cL_law 581 = .ok (.iload_n 3, 1) := by decide +kernel
theorem dL_law_582 : decode cL_law 582 = .ok (.bipush 13, 2) := by decide +kernel
theorem dL_law_584 : decode cL_law 584 = .ok (.iadd, 1) := by decide +kernel
theorem dL_law_585 : decode cL_law 585 = .ok (.iaload, 1) := by decide +kernel
theorem dL_law_586 : decode cL_law 586 = .ok (.i2l, 1) := by decide +kernel
theorem dL_law_587 : decode cL_law 587 = .ok (.ldc2_w 13, 3) := by decide +kernel
theorem dL_law_590 : decode cL_law 590 = .ok (.land, 1) := by decide +kernel
theorem dL_law_591 : decode cL_law 591 = .ok (.lor, 1) := by decide +kernel
theorem dL_law_592 : decode cL_law 592 = .ok (.invokevirtual 33, 3) := by decide +kernel
theorem dL_law_595 : decode cL_law 595 = .ok (.if_icmp .eq 347, 3) := by decide +kernel
theorem dL_law_598 : decode cL_law 598 = .ok (.iconst 0, 1) := by decide +kernel
theorem dL_law_599 : decode cL_law 599 = .ok (.ireturn, 1) := by decide +kernel
theorem dL_law_600 : decode cL_law 600 = .ok (.aload_n 1, 1) := by decide +kernel
theorem dL_law_601 : decode cL_law 601 = .ok (.aload_n 0, 1) := by decide +kernel
theorem dL_law_602 : decode cL_law 602 = .ok (.iload_n 3, 1) := by decide +kernel
theorem dL_law_603 : decode cL_law 603 = .ok (.iconst 1, 1) := by decide +kernel
theorem dL_law_604 : decode cL_law 604 = .ok (.iadd, 1) := by decide +kernel
theorem dL_law_605 : decode cL_law 605 = .ok (.iaload, 1) := by decide +kernel
theorem dL_law_606 : decode cL_law 606 = .ok (.invokevirtual 34, 3) := by decide +kernel
theorem dL_law_609 : decode cL_law 609 = .ok (.aload_n 2, 1) := by decide +kernel
theorem dL_law_610 : decode cL_law 610 = .ok (.aload_n 0, 1) := by decide +kernel
theorem dL_law_611 : decode cL_law 611 = .ok (.iload_n 3, 1) := by decide +kernel
theorem dL_law_612 : decode cL_law 612 = .ok (.iconst 1, 1) := by decide +kernel
theorem dL_law_613 : decode cL_law 613 = .ok (.iadd, 1) := by decide +kernel
theorem dL_law_614 : decode cL_law 614 = .ok (.iaload, 1) := by decide +kernel
theorem dL_law_615 : decode cL_law 615 = .ok (.invokevirtual 38, 3) := by decide +kernel
theorem dL_law_618 : decode cL_law 618 = .ok (.if_icmp .eq 324, 3) := by decide +kernel
theorem dL_law_621 : decode cL_law 621 = .ok (.iconst 0, 1) := by decide +kernel
theorem dL_law_622 : decode cL_law 622 = .ok (.ireturn, 1) := by decide +kernel
theorem dL_law_623 : decode cL_law 623 = .ok (.aload_n 1, 1) := by decide +kernel
theorem dL_law_624 : decode cL_law 624 = .ok (.aload_n 0, 1) := by decide +kernel
theorem dL_law_625 : decode cL_law 625 = .ok (.iload_n 3, 1) := by decide +kernel
theorem dL_law_626 : decode cL_law 626 = .ok (.iconst 1, 1) := by decide +kernel
theorem dL_law_627 : decode cL_law 627 = .ok (.iadd, 1) := by decide +kernel
theorem dL_law_628 : decode cL_law 628 = .ok (.iaload, 1) := by decide +kernel
theorem dL_law_629 : decode cL_law 629 = .ok (.aload_n 0, 1) := by decide +kernel
theorem dL_law_630 : decode cL_law 630 = .ok (.iload_n 3, 1) := by decide +kernel
theorem dL_law_631 : decode cL_law 631 = .ok (.iconst 2, 1) := by decide +kernel
theorem dL_law_632 : decode cL_law 632 = .ok (.iadd, 1) := by decide +kernel
theorem dL_law_633 : decode cL_law 633 = .ok (.iaload, 1) := by decide +kernel
theorem dL_law_634 : decode cL_law 634 = .ok (.invokevirtual 39, 3) := by decide +kernel
theorem dL_law_637 : decode cL_law 637 = .ok (.aload_n 2, 1) := by decide +kernel
theorem dL_law_638 : decode cL_law 638 = .ok (.aload_n 0, 1) := by decide +kernel
theorem dL_law_639 : decode cL_law 639 = .ok (.iload_n 3, 1) := by decide +kernel
theorem dL_law_640 : decode cL_law 640 = .ok (.iconst 1, 1) := by decide +kernel
theorem dL_law_641 : decode cL_law 641 = .ok (.iadd, 1) := by decide +kernel
theorem dL_law_642 : decode cL_law 642 = .ok (.iaload, 1) := by decide +kernel
theorem dL_law_643 : decode cL_law 643 = .ok (.aload_n 0, 1) := by decide +kernel
theorem dL_law_644 : decode cL_law 644 = .ok (.iload_n 3, 1) := by decide +kernel
theorem dL_law_645 : decode cL_law 645 = .ok (.iconst 2, 1) := by decide +kernel
theorem dL_law_646 : decode cL_law 646 = .ok (.iadd, 1) := by decide +kernel
theorem dL_law_647 : decode cL_law 647 = .ok (.iaload, 1) := by decide +kernel
theorem dL_law_648 : decode cL_law 648 = .ok (.invokevirtual 43, 3) := by decide +kernel
theorem dL_law_651 : decode cL_law 651 = .ok (.if_icmp .eq 291, 3) := by decide +kernel
theorem dL_law_654 : decode cL_law 654 = .ok (.iconst 0, 1) := by decide +kernel
theorem dL_law_655 : decode cL_law 655 = .ok (.ireturn, 1) := by decide +kernel
theorem dL_law_656 : decode cL_law 656 = .ok (.aload_n 1, 1) := by decide +kernel
theorem dL_law_657 : decode cL_law 657 = .ok (.invokevirtual 44, 3) := by decide +kernel
theorem dL_law_660 : decode cL_law 660 = .ok (.aload_n 2, 1) := by decide +kernel
theorem dL_law_661 : decode cL_law 661 = .ok (.invokevirtual 48, 3) := by decide +kernel
theorem dL_law_664 : decode cL_law 664 = .ok (.if_icmp .eq 278, 3) := by decide +kernel
theorem dL_law_667 : decode cL_law 667 = .ok (.iconst 0, 1) := by decide +kernel
theorem dL_law_668 : decode cL_law 668 = .ok (.ireturn, 1) := by decide +kernel
theorem dL_law_669 : decode cL_law 669 = .ok (.aload_n 1, 1) := by decide +kernel
theorem dL_law_670 : decode cL_law 670 = .ok (.aload_n 0, 1) := by decide +kernel
theorem dL_law_671 : decode cL_law 671 = .ok (.iload_n 3, 1) := by decide +kernel
theorem dL_law_672 : decode cL_law 672 = .ok (.iconst 1, 1) := by decide +kernel
theorem dL_law_673 : decode cL_law 673 = .ok (.iadd, 1) := by decide +kernel
theorem dL_law_674 : decode cL_law 674 = .ok (.iaload, 1) := by decide +kernel
theorem dL_law_675 : decode cL_law 675 = .ok (.invokevirtual 49, 3) := by decide +kernel
theorem dL_law_678 : decode cL_law 678 = .ok (.aload_n 2, 1) := by decide +kernel
theorem dL_law_679 : decode cL_law 679 = .ok (.aload_n 0, 1) := by decide +kernel
theorem dL_law_680 : decode cL_law 680 = .ok (.iload_n 3, 1) := by decide +kernel
theorem dL_law_681 : decode cL_law 681 = .ok (.iconst 1, 1) := by decide +kernel
theorem dL_law_682 : decode cL_law 682 = .ok (.iadd, 1) := by decide +kernel
theorem dL_law_683 : decode cL_law 683 = .ok (.iaload, 1) := by decide +kernel
theorem dL_law_684 : decode cL_law 684 = .ok (.invokevirtual 52, 3) := by decide +kernel
theorem dL_law_687 : decode cL_law 687 = .ok (.if_icmp .eq 255, 3) := by decide +kernel
theorem dL_law_690 : decode cL_law 690 = .ok (.iconst 0, 1) := by decide +kernel
theorem dL_law_691 : decode cL_law 691 = .ok (.ireturn, 1) := by decide +kernel
theorem dL_law_692 : decode cL_law 692 = .ok (.aload_n 1, 1) := by decide +kernel
theorem dL_law_693 : decode cL_law 693 = .ok (.invokevirtual 53, 3) := by decide +kernel
theorem dL_law_696 : decode cL_law 696 = .ok (.aload_n 2, 1) := by decide +kernel
theorem dL_law_697 : decode cL_law 697 = .ok (.invokevirtual 56, 3) := by decide +kernel
theorem dL_law_700 : decode cL_law 700 = .ok (.if_icmp .eq 242, 3) := by decide +kernel
theorem dL_law_703 : decode cL_law 703 = .ok (.iconst 0, 1) := by decide +kernel
theorem dL_law_704 : decode cL_law 704 = .ok (.ireturn, 1) := by decide +kernel
theorem dL_law_705 : decode cL_law 705 = .ok (.aload_n 1, 1) := by decide +kernel
theorem dL_law_706 : decode cL_law 706 = .ok (.invokevirtual 57, 3) := by decide +kernel
theorem dL_law_709 : decode cL_law 709 = .ok (.aload_n 2, 1) := by decide +kernel
theorem dL_law_710 : decode cL_law 710 = .ok (.invokevirtual 60, 3) := by decide +kernel
theorem dL_law_713 : decode cL_law 713 = .ok (.if_icmp .eq 229, 3) := by decide +kernel
theorem dL_law_716 : decode cL_law 716 = .ok (.iconst 0, 1) := by decide +kernel
theorem dL_law_717 : decode cL_law 717 = .ok (.ireturn, 1) := by decide +kernel
theorem dL_law_718 : decode cL_law 718 = .ok (.aload_n 1, 1) := by decide +kernel
theorem dL_law_719 : decode cL_law 719 = .ok (.aload_n 0, 1) := by decide +kernel
theorem dL_law_720 : decode cL_law 720 = .ok (.iload_n 3, 1) := by decide +kernel
theorem dL_law_721 : decode cL_law 721 = .ok (.iconst 1, 1) := by decide +kernel
theorem dL_law_722 : decode cL_law 722 = .ok (.iadd, 1) := by decide +kernel
theorem dL_law_723 : decode cL_law 723 = .ok (.iaload, 1) := by decide +kernel
theorem dL_law_724 : decode cL_law 724 = .ok (.invokevirtual 61, 3) := by decide +kernel
theorem dL_law_727 : decode cL_law 727 = .ok (.aload_n 2, 1) := by decide +kernel
theorem dL_law_728 : decode cL_law 728 = .ok (.aload_n 0, 1) := by decide +kernel
theorem dL_law_729 : decode cL_law 729 = .ok (.iload_n 3, 1) := by decide +kernel
theorem dL_law_730 : decode cL_law 730 = .ok (.iconst 1, 1) := by decide +kernel
theorem dL_law_731 : decode cL_law 731 = .ok (.iadd, 1) := by decide +kernel
theorem dL_law_732 : decode cL_law 732 = .ok (.iaload, 1) := by decide +kernel
theorem dL_law_733 : decode cL_law 733 = .ok (.invokevirtual 64, 3) := by decide +kernel
theorem dL_law_736 : decode cL_law 736 = .ok (.if_icmp .eq 206, 3) := by decide +kernel
theorem dL_law_739 : decode cL_law 739 = .ok (.iconst 0, 1) := by decide +kernel
theorem dL_law_740 : decode cL_law 740 = .ok (.ireturn, 1) := by decide +kernel
theorem dL_law_741 : decode cL_law 741 = .ok (.aload_n 1, 1) := by decide +kernel
theorem dL_law_742 : decode cL_law 742 = .ok (.aload_n 0, 1) := by decide +kernel
theorem dL_law_743 : decode cL_law 743 = .ok (.iload_n 3, 1) := by decide +kernel
theorem dL_law_744 : decode cL_law 744 = .ok (.iconst 1, 1) := by decide +kernel
theorem dL_law_745 : decode cL_law 745 = .ok (.iadd, 1) := by decide +kernel
theorem dL_law_746 : decode cL_law 746 = .ok (.iaload, 1) := by decide +kernel
theorem dL_law_747 : decode cL_law 747 = .ok (.aload_n 0, 1) := by decide +kernel
theorem dL_law_748 : decode cL_law 748 = .ok (.iload_n 3, 1) := by decide +kernel
theorem dL_law_749 : decode cL_law 749 = .ok (.iconst 2, 1) := by decide +kernel
theorem dL_law_750 : decode cL_law 750 = .ok (.iadd, 1) := by decide +kernel
theorem dL_law_751 : decode cL_law 751 = .ok (.iaload, 1) := by decide +kernel
theorem dL_law_752 : decode cL_law 752 = .ok (.invokevirtual 65, 3) := by decide +kernel
theorem dL_law_755 : decode cL_law 755 = .ok (.aload_n 2, 1) := by decide +kernel
theorem dL_law_756 : decode cL_law 756 = .ok (.aload_n 0, 1) := by decide +kernel
theorem dL_law_757 : decode cL_law 757 = .ok (.iload_n 3, 1) := by decide +kernel
theorem dL_law_758 : decode cL_law 758 = .ok (.iconst 1, 1) := by decide +kernel
theorem dL_law_759 : decode cL_law 759 = .ok (.iadd, 1) := by decide +kernel
theorem dL_law_760 : decode cL_law 760 = .ok (.iaload, 1) := by decide +kernel
theorem dL_law_761 : decode cL_law 761 = .ok (.aload_n 0, 1) := by decide +kernel
theorem dL_law_762 : decode cL_law 762 = .ok (.iload_n 3, 1) := by decide +kernel
theorem dL_law_763 : decode cL_law 763 = .ok (.iconst 2, 1) := by decide +kernel
theorem dL_law_764 : decode cL_law 764 = .ok (.iadd, 1) := by decide +kernel
theorem dL_law_765 : decode cL_law 765 = .ok (.iaload, 1) := by decide +kernel
theorem dL_law_766 : decode cL_law 766 = .ok (.invokevirtual 68, 3) := by decide +kernel
theorem dL_law_769 : decode cL_law 769 = .ok (.if_icmp .eq 173, 3) := by decide +kernel
theorem dL_law_772 : decode cL_law 772 = .ok (.iconst 0, 1) := by decide +kernel
theorem dL_law_773 : decode cL_law 773 = .ok (.ireturn, 1) := by decide +kernel
theorem dL_law_774 : decode cL_law 774 = .ok (.aload_n 1, 1) := by decide +kernel
theorem dL_law_775 : decode cL_law 775 = .ok (.aload_n 0, 1) := by decide +kernel
theorem dL_law_776 : decode cL_law 776 = .ok (.iload_n 3, 1) := by decide +kernel
theorem dL_law_777 : decode cL_law 777 = .ok (.iconst 1, 1) := by decide +kernel
theorem dL_law_778 : decode cL_law 778 = .ok (.iadd, 1) := by decide +kernel
theorem dL_law_779 : decode cL_law 779 = .ok (.iaload, 1) := by decide +kernel
theorem dL_law_780 : decode cL_law 780 = .ok (.aload_n 0, 1) := by decide +kernel
theorem dL_law_781 : decode cL_law 781 = .ok (.iload_n 3, 1) := by decide +kernel
theorem dL_law_782 : decode cL_law 782 = .ok (.iconst 2, 1) := by decide +kernel
theorem dL_law_783 : decode cL_law 783 = .ok (.iadd, 1) := by decide +kernel
theorem dL_law_784 : decode cL_law 784 = .ok (.iaload, 1) := by decide +kernel
theorem dL_law_785 : decode cL_law 785 = .ok (.invokevirtual 69, 3) := by decide +kernel
theorem dL_law_788 : decode cL_law 788 = .ok (.aload_n 2, 1) := by decide +kernel
theorem dL_law_789 : decode cL_law 789 = .ok (.aload_n 0, 1) := by decide +kernel
theorem dL_law_790 : decode cL_law 790 = .ok (.iload_n 3, 1) := by decide +kernel
theorem dL_law_791 : decode cL_law 791 = .ok (.iconst 1, 1) := by decide +kernel
theorem dL_law_792 : decode cL_law 792 = .ok (.iadd, 1) := by decide +kernel
theorem dL_law_793 : decode cL_law 793 = .ok (.iaload, 1) := by decide +kernel
theorem dL_law_794 : decode cL_law 794 = .ok (.aload_n 0, 1) := by decide +kernel
theorem dL_law_795 : decode cL_law 795 = .ok (.iload_n 3, 1) := by decide +kernel
theorem dL_law_796 : decode cL_law 796 = .ok (.iconst 2, 1) := by decide +kernel
theorem dL_law_797 : decode cL_law 797 = .ok (.iadd, 1) := by decide +kernel
theorem dL_law_798 : decode cL_law 798 = .ok (.iaload, 1) := by decide +kernel
theorem dL_law_799 : decode cL_law 799 = .ok (.invokevirtual 72, 3) := by decide +kernel
theorem dL_law_802 : decode cL_law 802 = .ok (.if_icmp .eq 140, 3) := by decide +kernel
theorem dL_law_805 : decode cL_law 805 = .ok (.iconst 0, 1) := by decide +kernel
theorem dL_law_806 : decode cL_law 806 = .ok (.ireturn, 1) := by decide +kernel
theorem dL_law_807 : decode cL_law 807 = .ok (.aload_n 1, 1) := by decide +kernel
theorem dL_law_808 : decode cL_law 808 = .ok (.aload_n 0, 1) := by decide +kernel
theorem dL_law_809 : decode cL_law 809 = .ok (.iload_n 3, 1) := by decide +kernel
theorem dL_law_810 : decode cL_law 810 = .ok (.iconst 1, 1) := by decide +kernel
theorem dL_law_811 : decode cL_law 811 = .ok (.iadd, 1) := by decide +kernel
theorem dL_law_812 : decode cL_law 812 = .ok (.iaload, 1) := by decide +kernel
theorem dL_law_813 : decode cL_law 813 = .ok (.aload_n 0, 1) := by decide +kernel
theorem dL_law_814 : decode cL_law 814 = .ok (.iload_n 3, 1) := by decide +kernel
theorem dL_law_815 : decode cL_law 815 = .ok (.iconst 2, 1) := by decide +kernel
theorem dL_law_816 : decode cL_law 816 = .ok (.iadd, 1) := by decide +kernel
theorem dL_law_817 : decode cL_law 817 = .ok (.iaload, 1) := by decide +kernel
theorem dL_law_818 : decode cL_law 818 = .ok (.aload_n 0, 1) := by decide +kernel
theorem dL_law_819 : decode cL_law 819 = .ok (.iload_n 3, 1) := by decide +kernel
theorem dL_law_820 : decode cL_law 820 = .ok (.iconst 3, 1) := by decide +kernel
theorem dL_law_821 : decode cL_law 821 = .ok (.iadd, 1) := by decide +kernel
theorem dL_law_822 : decode cL_law 822 = .ok (.iaload, 1) := by decide +kernel
theorem dL_law_823 : decode cL_law 823 = .ok (.invokevirtual 73, 3) := by decide +kernel
theorem dL_law_826 : decode cL_law 826 = .ok (.aload_n 2, 1) := by decide +kernel
theorem dL_law_827 : decode cL_law 827 = .ok (.aload_n 0, 1) := by decide +kernel
theorem dL_law_828 : decode cL_law 828 = .ok (.iload_n 3, 1) := by decide +kernel
theorem dL_law_829 : decode cL_law 829 = .ok (.iconst 1, 1) := by decide +kernel
theorem dL_law_830 : decode cL_law 830 = .ok (.iadd, 1) := by decide +kernel
theorem dL_law_831 : decode cL_law 831 = .ok (.iaload, 1) := by decide +kernel
theorem dL_law_832 : decode cL_law 832 = .ok (.aload_n 0, 1) := by decide +kernel
theorem dL_law_833 : decode cL_law 833 = .ok (.iload_n 3, 1) := by decide +kernel
theorem dL_law_834 : decode cL_law 834 = .ok (.iconst 2, 1) := by decide +kernel
theorem dL_law_835 : decode cL_law 835 = .ok (.iadd, 1) := by decide +kernel
theorem dL_law_836 : decode cL_law 836 = .ok (.iaload, 1) := by decide +kernel
theorem dL_law_837 : decode cL_law 837 = .ok (.aload_n 0, 1) := by decide +kernel
theorem dL_law_838 : decode cL_law 838 = .ok (.iload_n 3, 1) := by decide +kernel
theorem dL_law_839 : decode cL_law 839 = .ok (.iconst 3, 1) := by decide +kernel
theorem dL_law_840 : decode cL_law 840 = .ok (.iadd, 1) := by decide +kernel
theorem dL_law_841 : decode cL_law 841 = .ok (.iaload, 1) := by decide +kernel
theorem dL_law_842 : decode cL_law 842 = .ok (.invokevirtual 77, 3) := by decide +kernel
theorem dL_law_845 : decode cL_law 845 = .ok (.if_icmp .eq 97, 3) := by decide +kernel
theorem dL_law_848 : decode cL_law 848 = .ok (.iconst 0, 1) := by decide +kernel
theorem dL_law_849 : decode cL_law 849 = .ok (.ireturn, 1) := by decide +kernel
theorem dL_law_850 : decode cL_law 850 = .ok (.aload_n 1, 1) := by decide +kernel
theorem dL_law_851 : decode cL_law 851 = .ok (.aload_n 0, 1) := by decide +kernel
theorem dL_law_852 : decode cL_law 852 = .ok (.iload_n 3, 1) := by decide +kernel
theorem dL_law_853 : decode cL_law 853 = .ok (.iconst 1, 1) := by decide +kernel
theorem dL_law_854 : decode cL_law 854 = .ok (.iadd, 1) := by decide +kernel
theorem dL_law_855 : decode cL_law 855 = .ok (.iaload, 1) := by decide +kernel
theorem dL_law_856 : decode cL_law 856 = .ok (.invokevirtual 78, 3) := by decide +kernel
theorem dL_law_859 : decode cL_law 859 = .ok (.aload_n 2, 1) := by decide +kernel
theorem dL_law_860 : decode cL_law 860 = .ok (.aload_n 0, 1) := by decide +kernel
theorem dL_law_861 : decode cL_law 861 = .ok (.iload_n 3, 1) := by decide +kernel
theorem dL_law_862 : decode cL_law 862 = .ok (.iconst 1, 1) := by decide +kernel
theorem dL_law_863 : decode cL_law 863 = .ok (.iadd, 1) := by decide +kernel
theorem dL_law_864 : decode cL_law 864 = .ok (.iaload, 1) := by decide +kernel
theorem dL_law_865 : decode cL_law 865 = .ok (.invokevirtual 81, 3) := by decide +kernel
theorem dL_law_868 : decode cL_law 868 = .ok (.if_icmp .eq 74, 3) := by decide +kernel
theorem dL_law_871 : decode cL_law 871 = .ok (.iconst 0, 1) := by decide +kernel
theorem dL_law_872 : decode cL_law 872 = .ok (.ireturn, 1) := by decide +kernel
theorem dL_law_873 : decode cL_law 873 = .ok (.aload_n 1, 1) := by decide +kernel
theorem dL_law_874 : decode cL_law 874 = .ok (.aload_n 0, 1) := by decide +kernel
theorem dL_law_875 : decode cL_law 875 = .ok (.iload_n 3, 1) := by decide +kernel
theorem dL_law_876 : decode cL_law 876 = .ok (.iconst 1, 1) := by decide +kernel
theorem dL_law_877 : decode cL_law 877 = .ok (.iadd, 1) := by decide +kernel
theorem dL_law_878 : decode cL_law 878 = .ok (.iaload, 1) := by decide +kernel
theorem dL_law_879 : decode cL_law 879 = .ok (.invokevirtual 82, 3) := by decide +kernel
theorem dL_law_882 : decode cL_law 882 = .ok (.aload_n 2, 1) := by decide +kernel
theorem dL_law_883 : decode cL_law 883 = .ok (.aload_n 0, 1) := by decide +kernel
theorem dL_law_884 : decode cL_law 884 = .ok (.iload_n 3, 1) := by decide +kernel
theorem dL_law_885 : decode cL_law 885 = .ok (.iconst 1, 1) := by decide +kernel
theorem dL_law_886 : decode cL_law 886 = .ok (.iadd, 1) := by decide +kernel
theorem dL_law_887 : decode cL_law 887 = .ok (.iaload, 1) := by decide +kernel
theorem dL_law_888 : decode cL_law 888 = .ok (.invokevirtual 85, 3) := by decide +kernel
theorem dL_law_891 : decode cL_law 891 = .ok (.if_icmp .eq 51, 3) := by decide +kernel
theorem dL_law_894 : decode cL_law 894 = .ok (.iconst 0, 1) := by decide +kernel
theorem dL_law_895 : decode cL_law 895 = .ok (.ireturn, 1) := by decide +kernel
theorem dL_law_896 : decode cL_law 896 = .ok (.aload_n 1, 1) := by decide +kernel
theorem dL_law_897 : decode cL_law 897 = .ok (.aload_n 0, 1) := by decide +kernel
theorem dL_law_898 : decode cL_law 898 = .ok (.iload_n 3, 1) := by decide +kernel
theorem dL_law_899 : decode cL_law 899 = .ok (.iconst 1, 1) := by decide +kernel
theorem dL_law_900 : decode cL_law 900 = .ok (.iadd, 1) := by decide +kernel
theorem dL_law_901 : decode cL_law 901 = .ok (.iaload, 1) := by decide +kernel
theorem dL_law_902 : decode cL_law 902 = .ok (.invokevirtual 86, 3) := by decide +kernel
theorem dL_law_905 : decode cL_law 905 = .ok (.aload_n 2, 1) := by decide +kernel
theorem dL_law_906 : decode cL_law 906 = .ok (.aload_n 0, 1) := by decide +kernel
theorem dL_law_907 : decode cL_law 907 = .ok (.iload_n 3, 1) := by decide +kernel
theorem dL_law_908 : decode cL_law 908 = .ok (.iconst 1, 1) := by decide +kernel
theorem dL_law_909 : decode cL_law 909 = .ok (.iadd, 1) := by decide +kernel
theorem dL_law_910 : decode cL_law 910 = .ok (.iaload, 1) := by decide +kernel
theorem dL_law_911 : decode cL_law 911 = .ok (.invokevirtual 89, 3) := by decide +kernel
theorem dL_law_914 : decode cL_law 914 = .ok (.if_icmp .eq 28, 3) := by decide +kernel
theorem dL_law_917 : decode cL_law 917 = .ok (.iconst 0, 1) := by decide +kernel
theorem dL_law_918 : decode cL_law 918 = .ok (.ireturn, 1) := by decide +kernel
theorem dL_law_919 : decode cL_law 919 = .ok (.aload_n 1, 1) := by decide +kernel
theorem dL_law_920 : decode cL_law 920 = .ok (.aload_n 0, 1) := by decide +kernel
theorem dL_law_921 : decode cL_law 921 = .ok (.iload_n 3, 1) := by decide +kernel
theorem dL_law_922 : decode cL_law 922 = .ok (.iconst 1, 1) := by decide +kernel
theorem dL_law_923 : decode cL_law 923 = .ok (.iadd, 1) := by decide +kernel
theorem dL_law_924 : decode cL_law 924 = .ok (.iaload, 1) := by decide +kernel
theorem dL_law_925 : decode cL_law 925 = .ok (.invokevirtual 90, 3) := by decide +kernel
theorem dL_law_928 : decode cL_law 928 = .ok (.aload_n 2, 1) := by decide +kernel
theorem dL_law_929 : decode cL_law 929 = .ok (.aload_n 0, 1) := by decide +kernel
theorem dL_law_930 : decode cL_law 930 = .ok (.iload_n 3, 1) := by decide +kernel
theorem dL_law_931 : decode cL_law 931 = .ok (.iconst 1, 1) := by decide +kernel
theorem dL_law_932 : decode cL_law 932 = .ok (.iadd, 1) := by decide +kernel
theorem dL_law_933 : decode cL_law 933 = .ok (.iaload, 1) := by decide +kernel
theorem dL_law_934 : decode cL_law 934 = .ok (.invokevirtual 93, 3) := by decide +kernel
theorem dL_law_937 : decode cL_law 937 = .ok (.if_icmp .eq 5, 3) := by decide +kernel
theorem dL_law_940 : decode cL_law 940 = .ok (.iconst 0, 1) := by decide +kernel
theorem dL_law_941 : decode cL_law 941 = .ok (.ireturn, 1) := by decide +kernel
theorem dL_law_942 : decode cL_law 942 = .ok (.iinc 3 14, 3) := by decide +kernel
theorem dL_law_945 : decode cL_law 945 = .ok (.goto (-927), 3) := by decide +kernel
theorem dL_law_948 : decode cL_law 948 = .ok (.iconst 1, 1) := by decide +kernel
theorem dL_law_949 : decode cL_law 949 = .ok (.ireturn, 1) := by decide +kernel
end
section
/-! THE LAYER: the world as one state by roles; each row turns the judgement at an instruction into the judgement at the next -/
abbrev tw_S : Type := (Nat → List Nat) × (Nat → Nat → Int32) × (Nat → Nat → Int64) × (Nat → Nat → Int32) × (Nat → Nat → Int64)
def tw_R (S : tw_S) : Nat → List Nat := S.1
def tw_I (S : tw_S) : Nat → Nat → Int32 := S.2.1
def tw_J (S : tw_S) : Nat → Nat → Int64 := S.2.2.1
def tw_A (S : tw_S) : Nat → Nat → Int32 := S.2.2.2.1
def tw_B (S : tw_S) : Nat → Nat → Int64 := S.2.2.2.2
def tw_uR (S : tw_S) (r : Nat) (xs : List Nat) : tw_S := (fun q => if q = r then xs else S.1 q, S.2)
def tw_uI (S : tw_S) (r k : Nat) (x : Int32) : tw_S := (S.1, (fun q j => if q = r ∧ j = k then x else S.2.1 q j), S.2.2)
def tw_uJ (S : tw_S) (r k : Nat) (x : Int64) : tw_S := (S.1, S.2.1, (fun q j => if q = r ∧ j = k then x else S.2.2.1 q j), S.2.2.2)
def tw_uA (S : tw_S) (r k : Nat) (x : Int32) : tw_S := (S.1, S.2.1, S.2.2.1, (fun q j => if q = r ∧ j = k then x else S.2.2.2.1 q j), S.2.2.2.2)
def tw_uB (S : tw_S) (r k : Nat) (x : Int64) : tw_S := (S.1, S.2.1, S.2.2.1, S.2.2.2.1, (fun q j => if q = r ∧ j = k then x else S.2.2.2.2 q j))
def tw_wI (S : tw_S) (r : Nat) (F : Nat → Int32) : tw_S := (S.1, (fun q j => if q = r then F j else S.2.1 q j), S.2.2)
def tw_wA (S : tw_S) (r : Nat) (F : Nat → Int32) : tw_S := (S.1, S.2.1, S.2.2.1, (fun q j => if q = r then F j else S.2.2.2.1 q j), S.2.2.2.2)
theorem tq_R_uR (S : tw_S) (r : Nat) (xs : List Nat) (q : Nat) : tw_R (tw_uR S r xs) q = if q = r then xs else tw_R S q := rfl
theorem tq_I_uR (S : tw_S) (r : Nat) (xs : List Nat) : tw_I (tw_uR S r xs) = tw_I S := rfl
theorem tq_J_uR (S : tw_S) (r : Nat) (xs : List Nat) : tw_J (tw_uR S r xs) = tw_J S := rfl
theorem tq_A_uR (S : tw_S) (r : Nat) (xs : List Nat) : tw_A (tw_uR S r xs) = tw_A S := rfl
theorem tq_B_uR (S : tw_S) (r : Nat) (xs : List Nat) : tw_B (tw_uR S r xs) = tw_B S := rfl
theorem tq_R_uI (S : tw_S) (r k : Nat) (x : Int32) : tw_R (tw_uI S r k x) = tw_R S := rfl
theorem tq_I_uI (S : tw_S) (r k : Nat) (x : Int32) (q j : Nat) : tw_I (tw_uI S r k x) q j = if q = r ∧ j = k then x else tw_I S q j := rfl
theorem tq_J_uI (S : tw_S) (r k : Nat) (x : Int32) : tw_J (tw_uI S r k x) = tw_J S := rfl
theorem tq_A_uI (S : tw_S) (r k : Nat) (x : Int32) : tw_A (tw_uI S r k x) = tw_A S := rfl
theorem tq_B_uI (S : tw_S) (r k : Nat) (x : Int32) : tw_B (tw_uI S r k x) = tw_B S := rfl
theorem tq_R_uJ (S : tw_S) (r k : Nat) (x : Int64) : tw_R (tw_uJ S r k x) = tw_R S := rfl
theorem tq_I_uJ (S : tw_S) (r k : Nat) (x : Int64) : tw_I (tw_uJ S r k x) = tw_I S := rfl
theorem tq_J_uJ (S : tw_S) (r k : Nat) (x : Int64) (q j : Nat) : tw_J (tw_uJ S r k x) q j = if q = r ∧ j = k then x else tw_J S q j := rfl
theorem tq_A_uJ (S : tw_S) (r k : Nat) (x : Int64) : tw_A (tw_uJ S r k x) = tw_A S := rfl
theorem tq_B_uJ (S : tw_S) (r k : Nat) (x : Int64) : tw_B (tw_uJ S r k x) = tw_B S := rfl
theorem tq_R_uA (S : tw_S) (r k : Nat) (x : Int32) : tw_R (tw_uA S r k x) = tw_R S := rfl
theorem tq_I_uA (S : tw_S) (r k : Nat) (x : Int32) : tw_I (tw_uA S r k x) = tw_I S := rfl
theorem tq_J_uA (S : tw_S) (r k : Nat) (x : Int32) : tw_J (tw_uA S r k x) = tw_J S := rfl
theorem tq_A_uA (S : tw_S) (r k : Nat) (x : Int32) (q j : Nat) : tw_A (tw_uA S r k x) q j = if q = r ∧ j = k then x else tw_A S q j := rfl
theorem tq_B_uA (S : tw_S) (r k : Nat) (x : Int32) : tw_B (tw_uA S r k x) = tw_B S := rfl
theorem tq_R_uB (S : tw_S) (r k : Nat) (x : Int64) : tw_R (tw_uB S r k x) = tw_R S := rfl
theorem tq_I_uB (S : tw_S) (r k : Nat) (x : Int64) : tw_I (tw_uB S r k x) = tw_I S := rfl
theorem tq_J_uB (S : tw_S) (r k : Nat) (x : Int64) : tw_J (tw_uB S r k x) = tw_J S := rfl
theorem tq_A_uB (S : tw_S) (r k : Nat) (x : Int64) : tw_A (tw_uB S r k x) = tw_A S := rfl
theorem tq_B_uB (S : tw_S) (r k : Nat) (x : Int64) (q j : Nat) : tw_B (tw_uB S r k x) q j = if q = r ∧ j = k then x else tw_B S q j := rfl
theorem tq_R_wI (S : tw_S) (r : Nat) (F : Nat → Int32) : tw_R (tw_wI S r F) = tw_R S := rfl
theorem tq_I_wI (S : tw_S) (r : Nat) (F : Nat → Int32) (q j : Nat) : tw_I (tw_wI S r F) q j = if q = r then F j else tw_I S q j := rfl
theorem tq_J_wI (S : tw_S) (r : Nat) (F : Nat → Int32) : tw_J (tw_wI S r F) = tw_J S := rfl
theorem tq_A_wI (S : tw_S) (r : Nat) (F : Nat → Int32) : tw_A (tw_wI S r F) = tw_A S := rfl
theorem tq_B_wI (S : tw_S) (r : Nat) (F : Nat → Int32) : tw_B (tw_wI S r F) = tw_B S := rfl
theorem tq_R_wA (S : tw_S) (r : Nat) (F : Nat → Int32) : tw_R (tw_wA S r F) = tw_R S := rfl
theorem tq_I_wA (S : tw_S) (r : Nat) (F : Nat → Int32) : tw_I (tw_wA S r F) = tw_I S := rfl
theorem tq_J_wA (S : tw_S) (r : Nat) (F : Nat → Int32) : tw_J (tw_wA S r F) = tw_J S := rfl
theorem tq_A_wA (S : tw_S) (r : Nat) (F : Nat → Int32) (q j : Nat) : tw_A (tw_wA S r F) q j = if q = r then F j else tw_A S q j := rfl
theorem tq_B_wA (S : tw_S) (r : Nat) (F : Nat → Int32) : tw_B (tw_wA S r F) = tw_B S := rfl
/-! the shape: objects by role (the class's place in vwCl, a code a field: 0 int, 1 long, 2 a row's length, 3 + r the role r), arrays by role (kind, length) -/
def tw_isRow (r : Nat) : Bool := r == 1 || r == 3 || r == 10 || r == 15 || r == 17 || (decide (22 ≤ r) && decide (r < 34) && (r - 22) % 4 == 1) || (decide (34 ≤ r) && decide (r < 114) && r % 2 == 0)
def tw_isHeap (r : Nat) : Bool := decide (22 ≤ r) && decide (r < 34) && (r - 22) % 4 == 0
def tw_cap (r : Nat) : Nat := if r = 1 ∨ r = 3 ∨ r = 15 then 640 else if r = 10 ∨ (22 ≤ r ∧ r < 34) then 600 else 120
def tw_sh (r : Nat) : Option (Nat × List Nat) :=
  if tw_isRow r = true then some (5, [r + 4, 2]) else if tw_isHeap r = true then some (2, [r + 4, r + 6, 0, 0, 0, 0, 0, 0]) else match r with
  | 0 => some (8, [4, 6, 8, 11, 12, 15, 17, 22, 24])
  | 5 => some (3, [9, 10, 1, 1])
  | 8 => some (6, [8])
  | 9 => some (7, [8, 13, 0, 0, 0, 0, 0, 0, 0, 0])
  | 12 => some (1, [16, 0])
  | 14 => some (0, [11, 18, 20])
  | 19 => some (4, [12, 23, 0, 0, 0, 0, 0])
  | 114 => some (9, [118, 119, 120, 121, 0, 122, 0, 123, 0, 0, 0, 0, 0, 0, 0, 0, 0, 0, 124, 0, 0, 0, 0, 125, 0, 126, 0, 0, 0, 127, 128, 129, 0, 0, 0, 130, 131, 132, 133, 134, 135, 136, 0, 0, 0, 0])
  | _ => none
def tw_ar (r : Nat) : Option (Nat × Nat) :=
  if tw_isRow (r - 1) = true ∧ 1 ≤ r then some (3, tw_cap (r - 1)) else if 22 ≤ r ∧ r < 34 ∧ (r - 22) % 4 = 3 then some (0, 75) else match r with
  | 6 => some (1, 16)
  | 7 => some (2, 16)
  | 13 => some (4, 40)
  | 20 => some (5, 3)
  | 21 => some (0, 8)
  | 115 => some (1, 16)
  | 116 => some (0, 128)
  | 117 => some (0, 16)
  | 118 => some (0, 640)
  | 119 => some (0, 800)
  | 120 => some (0, 800)
  | 121 => some (0, 640)
  | 122 => some (0, 800)
  | 123 => some (0, 8)
  | 124 => some (0, 8)
  | 125 => some (0, 4800)
  | 126 => some (0, 40)
  | 127 => some (0, 3)
  | 128 => some (0, 3)
  | 129 => some (0, 3)
  | 130 => some (0, 1800)
  | 131 => some (0, 3)
  | 132 => some (0, 300)
  | 133 => some (0, 300)
  | _ => none
def tw_fl (f : Nat → Nat → Value) : Nat → List Nat → List Value
  | _, [] => []
  | k, c :: cs => f k c :: tw_fl f (k + 1) cs
theorem tw_fl_get (f : Nat → Nat → Value) : ∀ (cs : List Nat) (k j : Nat), (tw_fl f k cs)[j]? = cs[j]?.map (f (k + j))
  | [], k, j => by simp [tw_fl]
  | c :: cs, k, 0 => by simp [tw_fl]
  | c :: cs, k, j + 1 => by
    simp only [tw_fl, List.getElem?_cons_succ]
    rw [tw_fl_get f cs (k + 1) j, show k + 1 + j = k + (j + 1) by omega]
theorem tw_fl_len (f : Nat → Nat → Value) : ∀ (cs : List Nat) (k : Nat), (tw_fl f k cs).length = cs.length
  | [], k => rfl
  | c :: cs, k => by simp [tw_fl, tw_fl_len f cs (k + 1)]
theorem tw_fl_set {f g : Nat → Nat → Value} {cs : List Nat} {k : Nat} {v : Value} (h : ∀ j c, cs[j]? = some c → g j c = if j = k then v else f j c) : (tw_fl f 0 cs).set k v = tw_fl g 0 cs := by
  apply List.ext_getElem?
  intro j
  rw [tw_fl_get g cs 0 j, Nat.zero_add]
  by_cases hj : j = k
  · subst hj
    cases hc : cs[j]? with
    | none =>
      have : ¬ j < cs.length := fun q => by rw [List.getElem?_eq_getElem q] at hc; cases hc
      rw [List.getElem?_set]
      simp [tw_fl_len, this]
    | some c =>
      have hl : j < cs.length := (List.getElem?_eq_some_iff.mp hc).1
      rw [List.getElem?_set_self (by rw [tw_fl_len]; exact hl)]
      simp [h j c hc]
  · rw [List.getElem?_set_ne (Ne.symm hj), tw_fl_get f cs 0 j, Nat.zero_add]
    cases hc : cs[j]? with
    | none => rfl
    | some c => simp [h j c hc, hj]
theorem tw_fl_eq {f g : Nat → Nat → Value} {cs : List Nat} (h : ∀ j c, cs[j]? = some c → g j c = f j c) : tw_fl f 0 cs = tw_fl g 0 cs := by
  apply List.ext_getElem?
  intro j
  rw [tw_fl_get g cs 0 j, tw_fl_get f cs 0 j, Nat.zero_add]
  cases hc : cs[j]? with
  | none => rfl
  | some c => simp [h j c hc]
def tw_fv (ad : Nat → Nat) (S : tw_S) (r k c : Nat) : Value := if c = 0 then .int (tw_I S r k) else if c = 1 then .long (tw_J S r k) else if c = 2 then .int (nI (tw_R S r).length) else .ref (ad (c - 3))
/-! what is fixed over the whole claim: the launch, the classes, the array classes, the addresses by role, which roles there are, the table's address, all addresses -/
abbrev tw_G : Type := Launch × va_G × (Nat → ClassId) × (Nat → Nat) × (Nat → Prop) × Nat × List Nat
def tw_l (G : tw_G) : Launch := G.1
def tw_D (G : tw_G) : va_G := G.2.1
def tw_cy (G : tw_G) : Nat → ClassId := G.2.2.1
def tw_ad (G : tw_G) : Nat → Nat := G.2.2.2.1
def tw_P (G : tw_G) : Nat → Prop := G.2.2.2.2.1
def tw_t0 (G : tw_G) : Nat := G.2.2.2.2.2.1
def tw_LA (G : tw_G) : List Nat := G.2.2.2.2.2.2
def tw_tys (G : tw_G) : List (ClassId × FieldType) := [(tw_cy G 0, .int), (tw_cy G 1, .boolean), (tw_cy G 2, .long), (tw_cy G 4, .object "ShortFrames$Row"), (tw_cy G 5, .object "ShortFrames$Heap")]
/-- the cell of a role -/
def tw_en (G : tw_G) (S : tw_S) (r : Nat) (e : va_E) : Prop :=
  match tw_sh r, tw_ar r with
  | some (ci, cs), _ => e = .inr (ci, tw_fl (fun k c => tw_fv (tw_ad G) S r k c) 0 cs)
  | none, some (0, n) => e = .inl (tw_cy G 0, n, .inl (tw_A S r))
  | none, some (1, n) => e = .inl (tw_cy G 1, n, .inl (tw_A S r))
  | none, some (2, n) => e = .inl (tw_cy G 2, n, .inr (.inl (tw_B S r)))
  | none, some (3, n) => ∃ g : Nat → Int32, e = .inl (tw_cy G 0, n, .inl g) ∧ ∀ (i x : Nat), (tw_R S (r - 1))[i]? = some x → g i = nI x
  | none, some (4, n) => e = .inl (tw_cy G 4, n, .inr (.inr (.inr (.inr (fun i => some (tw_ad G (34 + 2 * i)))))))
  | none, some (_, n) => e = .inl (tw_cy G 5, n, .inr (.inr (.inr (.inr (fun i => some (tw_ad G (22 + 4 * i)))))))
  | none, none => True
def tw_ag (r : Nat) (S S' : tw_S) : Prop := tw_R S' r = tw_R S r ∧ tw_R S' (r - 1) = tw_R S (r - 1) ∧ tw_I S' r = tw_I S r ∧ tw_J S' r = tw_J S r ∧ tw_A S' r = tw_A S r ∧ tw_B S' r = tw_B S r
theorem tw_en_ag {G : tw_G} {S S' : tw_S} {r : Nat} {e : va_E} (h : tw_ag r S S') (he : tw_en G S r e) : tw_en G S' r e := by
  obtain ⟨h1, h2, h3, h4, h5, h6⟩ := h
  have hf : ∀ k c, tw_fv (tw_ad G) S' r k c = tw_fv (tw_ad G) S r k c := fun k c => by simp only [tw_fv, h1, h3, h4]
  unfold tw_en at he ⊢
  simp only [hf, h2, h5, h6]
  exact he
def tw_wf (G : tw_G) (S : tw_S) : Prop := ∀ r, tw_P G r → tw_isRow r = true → (tw_R S r).length ≤ tw_cap r ∧ ∀ x ∈ tw_R S r, x < 256
def tw_W (G : tw_G) (S : tw_S) (H : Heap) : Prop := tw_wf G S ∧ ∃ f : Nat → va_E, va_P (tw_D G) vwCl (va_pl (tw_LA G) f) H ∧ ∀ r, tw_P G r → tw_en G S r (f (tw_ad G r))
def tw_tab : Nat → Value := fun j => .int ([16, 8, 2, 0, 0, 8, 2, 0, 16, 6, 4, 1].getD j 0)
def tw_Z (G : tw_G) (A : Nat → Prop) (U : State) (H : Heap) : Prop := va_Z "ShortFrames$Mode" "BYTES" "[I" (.ref (tw_t0 G)) A U H ∧ va_T .int (tw_t0 G) 12 tw_tab A U H
def tw_E (G : tw_G) (A : Nat → Prop) (U : State) : Prop := va_K (tw_D G) vwCl (tw_tys G) U ∧ (∀ f, va_D A (va_pl (tw_LA G) f)) ∧ (∀ r, tw_P G r → tw_ad G r ∈ tw_LA G) ∧ ∀ r r', tw_P G r → tw_P G r' → tw_ad G r = tw_ad G r' → r = r'
def tw_AA (G : tw_G) (sz : Nat) : Nat → Prop := fun q => q ∈ tw_LA G ∨ sz ≤ q
def tw_Pc (G : tw_G) (sz : Nat) (av : List Value) (S : tw_S) : Array Value → State → Prop := va_Pc av (fun U => U.heap.size = sz ∧ tw_W G S U.heap ∧ tw_E G (tw_AA G sz) U ∧ tw_Z G (tw_AA G sz) U U.heap)
def tw_Qc {α : Type} (G : tw_G) (sz : Nat) (inj : α → Option Value) (post : α → tw_S → Prop) : Array Value → State → Outcome → State → Prop := fun _ st oc t => (∃ (v : α) (S' : tw_S), oc = .returned (inj v) ∧ post v S' ∧ tw_W G S' t.heap) ∧ va_F (tw_AA G sz) st t
/-- a method's contract -/
def tw_M {α : Type} (G : tw_G) (y : MethodName) (bytes : ByteArray) (maxL : Nat) (ret : Option FieldType) (fr lo : Nat) (av : List Value) (S : tw_S) (inj : α → Option Value) (post : α → tw_S → Prop) : Prop :=
  ∀ sz : Nat, Met (tw_l G) y (.code y bytes maxL ret :: lw_g) ({ frames := fr, cells := 0, slots := 0, locals := lo }) (tw_Pc G sz av S) (tw_Qc G sz inj post) 0 0 (tw_AA G sz)
/-! a method's body: program, environment, room, state at the entry, method, arguments, frames below, the method's own, its code, how many locals, what may change, cells, slots, the end -/
abbrev tw_X : Type := Program × Env × Room × State × MethodId × Array Value × List Frame × Method × Code × Nat × (Nat → Prop) × Nat × Nat × (State → Prop)
def tx_p (X : tw_X) : Program := X.1
def tx_e (X : tw_X) : Env := X.2.1
def tx_R (X : tw_X) : Room := X.2.2.1
def tx_s (X : tw_X) : State := X.2.2.2.1
def tx_m (X : tw_X) : MethodId := X.2.2.2.2.1
def tx_a (X : tw_X) : Array Value := X.2.2.2.2.2.1
def tx_b (X : tw_X) : List Frame := X.2.2.2.2.2.2.1
def tx_t (X : tw_X) : Method := X.2.2.2.2.2.2.2.1
def tx_c (X : tw_X) : Code := X.2.2.2.2.2.2.2.2.1
def tx_n (X : tw_X) : Nat := X.2.2.2.2.2.2.2.2.2.1
def tx_A (X : tw_X) : Nat → Prop := X.2.2.2.2.2.2.2.2.2.2.1
def tx_k (X : tw_X) : Nat := X.2.2.2.2.2.2.2.2.2.2.2.1
def tx_z (X : tw_X) : Nat := X.2.2.2.2.2.2.2.2.2.2.2.2.1
def tx_Q (X : tw_X) : State → Prop := X.2.2.2.2.2.2.2.2.2.2.2.2.2
abbrev tx_W (G : tw_G) (X : tw_X) (H : Heap) (locs : List Loc) (pc : Nat) (ls : Array Slot) (st : List Value) : Prop := W (tx_p X) (tw_l G) (tx_e X) (tx_R X) (tx_s X) (tx_m X) (tx_a X) (tx_b X) (tx_t X) (tx_c X) H locs (tx_k X) (tx_z X) (tx_Q X) (F0 (tx_m X) pc ls st)
def TW (G : tw_G) (X : tw_X) (S : tw_S) (L : List (Nat × Value)) (pc : Nat) (st : List Value) : Prop := ∀ (H : Heap) (locs : List Loc) (ls : Array Slot), tw_W G S H → va_S (tx_A X) (tx_s X).heap H locs → lv_has ls (tx_n X) L → tx_W G X H locs pc ls st
def tw_C (G : tw_G) (X : tw_X) (cc : ByteArray) (own : String) : Prop := (tx_p X).tables.exec = Jvm.exec ∧ (tx_c X).code = cc ∧ (tx_c X).maxLocals = tx_n X ∧ (tx_s X).vm.findClass own = some (tx_m X).cls ∧ (∀ w ∈ lw_g, w.before (tx_a X) (tx_s X) = true) ∧ tw_E G (tx_A X) (tx_s X) ∧ tw_Z G (tx_A X) (tx_s X) (tx_s X).heap ∧ (∀ q, (tx_s X).heap.size ≤ q → tx_A X q) ∧ (tx_t X).locks = false
/-- the numbers of a body: locals, frames, words of locals; the room for cells -/
def tw_N (X : tw_X) (nL fr lo : Nat) : Prop := tx_n X = nL ∧ (tx_R X).frames = fr ∧ (tx_R X).locals = lo ∧ tx_k X ≤ (tx_R X).cells ∧ tx_z X ≤ (tx_R X).slots
/-- its end -/
def tw_Q {α : Type} (G : tw_G) (X : tw_X) (ret : Option FieldType) (inj : α → Option Value) (post : α → tw_S → Prop) : Prop := (tx_t X).sig.returnType = ret ∧ tx_A X = tw_AA G (tx_s X).heap.size ∧ tx_Q X = MQ (tx_b X) (tw_Qc G (tx_s X).heap.size inj post) (tx_a X) (tx_s X) (tx_k X) (tx_z X) (tw_AA G (tx_s X).heap.size)
def ri_I : Int32 → Option Value := fun x => some (.int x)
def ri_J : Int64 → Option Value := fun x => some (.long x)
def ri_V : Unit → Option Value := fun _ => none
section LY
variable {G : tw_G} {X : tw_X} {S : tw_S} {L L' : List (Nat × Value)} {pc : Nat} {st : List Value} {cc : ByteArray} {own : String}
theorem TW.c {L : List (Nat × Value)} (hs : ∀ q ∈ L', q ∈ L) (k : TW G X S L' pc st) : TW G X S L pc st := fun H locs ls hW hS hl => k H locs ls hW hS ⟨hl.1, hl.2.1, fun q hq => hl.2.2 q (hs q hq)⟩
theorem TW.wf (k : tw_wf G S → TW G X S L pc st) : TW G X S L pc st := fun H locs ls hW hS hl => k hW.1 H locs ls hW hS hl
theorem TW.stk {st' : List Value} (e : st = st') (k : TW G X S L pc st') : TW G X S L pc st := e ▸ k
theorem TW.sS {S' : tw_S} (e : S = S') (k : TW G X S' L pc st) : TW G X S L pc st := e ▸ k
theorem TW.lL (e : L = L') (k : TW G X S L' pc st) : TW G X S L pc st := e ▸ k
theorem TW.ti {x y : Int32} (e : x = y) (k : TW G X S L pc (.int y :: st)) : TW G X S L pc (.int x :: st) := e ▸ k
theorem TW.tl {x y : Int64} (e : x = y) (k : TW G X S L pc (.long y :: st)) : TW G X S L pc (.long x :: st) := e ▸ k
theorem tw_iconst {n : Int} {v : Int32} (C : tw_C G X cc own) (hd : decode cc pc = .ok (.iconst n, 1)) (hv : Int32.ofInt n = v) (k : TW G X S L (pc + 1) (.int v :: st)) : TW G X S L pc (st) := fun H locs ls hW hS hl => lv_iconst C.1 C.2.1 hd hv (k H locs ls hW hS hl)
theorem tw_bipush {n : Int} {v : Int32} (C : tw_C G X cc own) (hd : decode cc pc = .ok (.bipush n, 2)) (hv : (Int8.ofInt n).toInt32 = v) (k : TW G X S L (pc + 2) (.int v :: st)) : TW G X S L pc (st) := fun H locs ls hW hS hl => lv_bipush C.1 C.2.1 hd hv (k H locs ls hW hS hl)
theorem tw_sipush {n : Int} {v : Int32} (C : tw_C G X cc own) (hd : decode cc pc = .ok (.sipush n, 3)) (hv : (Int16.ofInt n).toInt32 = v) (k : TW G X S L (pc + 3) (.int v :: st)) : TW G X S L pc (st) := fun H locs ls hW hS hl => lv_sipush C.1 C.2.1 hd hv (k H locs ls hW hS hl)
theorem tw_lconst {n : Fin 2} {v : Int64} (C : tw_C G X cc own) (hd : decode cc pc = .ok (.lconst n, 1)) (hv : Int64.ofNat (n : Nat) = v) (k : TW G X S L (pc + 1) (.long v :: st)) : TW G X S L pc (st) := fun H locs ls hW hS hl => lv_lconst C.1 C.2.1 hd hv (k H locs ls hW hS hl)
theorem tw_ldc {index : Nat} {v w : Int32} (C : tw_C G X cc own) (hd : decode cc pc = .ok (.ldc index, 2)) (hc : Cond.constant own index v ∈ lw_g) (hv : v = w) (k : TW G X S L (pc + 2) (.int w :: st)) : TW G X S L pc (st) := fun H locs ls hW hS hl => lv_ldc C.1 C.2.1 C.2.2.2.1 (C.2.2.2.2.1 _ (hv ▸ hc)) hd (k H locs ls hW hS hl)
theorem tw_ldc2 {index : Nat} {v w : Int64} (C : tw_C G X cc own) (hd : decode cc pc = .ok (.ldc2_w index, 3)) (hc : Cond.constantLong own index v ∈ lw_g) (hv : v = w) (k : TW G X S L (pc + 3) (.long w :: st)) : TW G X S L pc (st) := fun H locs ls hW hS hl => lv_ldc2 C.1 C.2.1 C.2.2.2.1 (C.2.2.2.2.1 _ (hv ▸ hc)) hd (k H locs ls hW hS hl)
theorem tw_iload_n {k : Fin 4} {x : Int32} (C : tw_C G X cc own) (hd : decode cc pc = .ok (.iload_n k, 1)) (j : Nat) (hj : L[j]? = some ((k : Nat), .int x)) (k : TW G X S L (pc + 1) (.int x :: st)) : TW G X S L pc (st) := fun H locs ls hW hS hl => lv_iload_n C.1 C.2.1 hd rfl (lv_at hl j hj) (k H locs ls hW hS hl)
theorem tw_iload {i : Nat} {x : Int32} (C : tw_C G X cc own) (hd : decode cc pc = .ok (.iload i, 2)) (j : Nat) (hj : L[j]? = some (i, .int x)) (k : TW G X S L (pc + 2) (.int x :: st)) : TW G X S L pc (st) := fun H locs ls hW hS hl => lv_iload C.1 C.2.1 hd (lv_at hl j hj) (k H locs ls hW hS hl)
theorem tw_istore_n {x : Int32} {nL fr lo : Nat} {k : Fin 4} {i : Nat} (C : tw_C G X cc own) (N : tw_N X nL fr lo) (hd : decode cc pc = .ok (.istore_n k, 1)) (hi : (k : Nat) = i) (hn : i < nL) (hl' : (i, Value.int x) :: L.filter (fun q => !(q.1 == i) && !(q.1 + 1 == i && q.2.category == 2)) = L') (k' : TW G X S L' (pc + 1) st) : TW G X S L pc (.int x :: st) := fun H locs ls hW hS hl => lv_istore_n C.1 C.2.1 hd hi hl (by rw [N.1]; exact hn) hl' (fun ls' hl2 => k' H locs ls' hW hS hl2)
theorem tw_istore {x : Int32} {nL fr lo : Nat} {i : Nat} (C : tw_C G X cc own) (N : tw_N X nL fr lo) (hd : decode cc pc = .ok (.istore i, 2)) (hn : i < nL) (hl' : (i, Value.int x) :: L.filter (fun q => !(q.1 == i) && !(q.1 + 1 == i && q.2.category == 2)) = L') (k' : TW G X S L' (pc + 2) st) : TW G X S L pc (.int x :: st) := fun H locs ls hW hS hl => lv_istore C.1 C.2.1 hd hl (by rw [N.1]; exact hn) hl' (fun ls' hl2 => k' H locs ls' hW hS hl2)
theorem tw_lload_n {k : Fin 4} {x : Int64} (C : tw_C G X cc own) (hd : decode cc pc = .ok (.lload_n k, 1)) (j : Nat) (hj : L[j]? = some ((k : Nat), .long x)) (k : TW G X S L (pc + 1) (.long x :: st)) : TW G X S L pc (st) := fun H locs ls hW hS hl => lv_lload_n C.1 C.2.1 hd rfl (lv_at hl j hj) (k H locs ls hW hS hl)
theorem tw_lload {i : Nat} {x : Int64} (C : tw_C G X cc own) (hd : decode cc pc = .ok (.lload i, 2)) (j : Nat) (hj : L[j]? = some (i, .long x)) (k : TW G X S L (pc + 2) (.long x :: st)) : TW G X S L pc (st) := fun H locs ls hW hS hl => lv_lload C.1 C.2.1 hd (lv_at hl j hj) (k H locs ls hW hS hl)
theorem tw_lstore_n {x : Int64} {nL fr lo : Nat} {k : Fin 4} {i : Nat} (C : tw_C G X cc own) (N : tw_N X nL fr lo) (hd : decode cc pc = .ok (.lstore_n k, 1)) (hi : (k : Nat) = i) (hn : i + 1 < nL) (hl' : (i, Value.long x) :: L.filter (fun q => !(q.1 == i) && (!(q.1 == i + 1) && !(q.1 + 1 == i && q.2.category == 2))) = L') (k' : TW G X S L' (pc + 1) st) : TW G X S L pc (.long x :: st) := fun H locs ls hW hS hl => lv_lstore_n C.1 C.2.1 hd hi hl (by rw [N.1]; exact hn) hl' (fun ls' hl2 => k' H locs ls' hW hS hl2)
theorem tw_lstore {x : Int64} {nL fr lo : Nat} {i : Nat} (C : tw_C G X cc own) (N : tw_N X nL fr lo) (hd : decode cc pc = .ok (.lstore i, 2)) (hn : i + 1 < nL) (hl' : (i, Value.long x) :: L.filter (fun q => !(q.1 == i) && (!(q.1 == i + 1) && !(q.1 + 1 == i && q.2.category == 2))) = L') (k' : TW G X S L' (pc + 2) st) : TW G X S L pc (.long x :: st) := fun H locs ls hW hS hl => lv_lstore C.1 C.2.1 hd hl (by rw [N.1]; exact hn) hl' (fun ls' hl2 => k' H locs ls' hW hS hl2)
theorem tw_aload_n {k : Fin 4} {x : Nat} (C : tw_C G X cc own) (hd : decode cc pc = .ok (.aload_n k, 1)) (j : Nat) (hj : L[j]? = some ((k : Nat), .ref x)) (k : TW G X S L (pc + 1) (.ref x :: st)) : TW G X S L pc (st) := fun H locs ls hW hS hl => lv_aload_n C.1 C.2.1 hd rfl (lv_at hl j hj) (k H locs ls hW hS hl)
theorem tw_aload {i : Nat} {x : Nat} (C : tw_C G X cc own) (hd : decode cc pc = .ok (.aload i, 2)) (j : Nat) (hj : L[j]? = some (i, .ref x)) (k : TW G X S L (pc + 2) (.ref x :: st)) : TW G X S L pc (st) := fun H locs ls hW hS hl => lv_aload C.1 C.2.1 hd (lv_at hl j hj) (k H locs ls hW hS hl)
theorem tw_astore_n {x : Nat} {nL fr lo : Nat} {k : Fin 4} {i : Nat} (C : tw_C G X cc own) (N : tw_N X nL fr lo) (hd : decode cc pc = .ok (.astore_n k, 1)) (hi : (k : Nat) = i) (hn : i < nL) (hl' : (i, Value.ref x) :: L.filter (fun q => !(q.1 == i) && !(q.1 + 1 == i && q.2.category == 2)) = L') (k' : TW G X S L' (pc + 1) st) : TW G X S L pc (.ref x :: st) := fun H locs ls hW hS hl => lv_astore_n C.1 C.2.1 hd hi hl (by rw [N.1]; exact hn) hl' (fun ls' hl2 => k' H locs ls' hW hS hl2)
theorem tw_astore {x : Nat} {nL fr lo : Nat} {i : Nat} (C : tw_C G X cc own) (N : tw_N X nL fr lo) (hd : decode cc pc = .ok (.astore i, 2)) (hn : i < nL) (hl' : (i, Value.ref x) :: L.filter (fun q => !(q.1 == i) && !(q.1 + 1 == i && q.2.category == 2)) = L') (k' : TW G X S L' (pc + 2) st) : TW G X S L pc (.ref x :: st) := fun H locs ls hW hS hl => lv_astore C.1 C.2.1 hd hl (by rw [N.1]; exact hn) hl' (fun ls' hl2 => k' H locs ls' hW hS hl2)
theorem tw_iinc {i k nL fr lo : Nat} {n : Int} {x v : Int32} (C : tw_C G X cc own) (N : tw_N X nL fr lo) (hd : decode cc pc = .ok (.iinc i n, 3)) (hk : L[k]? = some (i, .int x)) (hv : x + Int32.ofInt n = v) (hn : i < nL) (hl' : (i, Value.int v) :: L.filter (fun q => !(q.1 == i) && !(q.1 + 1 == i && q.2.category == 2)) = L') (k' : TW G X S L' (pc + 3) st) : TW G X S L pc st := fun H locs ls hW hS hl => lv_iinc C.1 C.2.1 hd hl hk hv (by rw [N.1]; exact hn) hl' (fun ls' hl2 => k' H locs ls' hW hS hl2)
theorem tw_iadd {x y v : Int32} (C : tw_C G X cc own) (hd : decode cc pc = .ok (.iadd, 1)) (hv : x + y = v) (k : TW G X S L (pc + 1) (.int v :: st)) : TW G X S L pc (.int y :: .int x :: st) := fun H locs ls hW hS hl => lv_iadd C.1 C.2.1 hd (by rw [hv]; exact k H locs ls hW hS hl)
theorem tw_isub {x y v : Int32} (C : tw_C G X cc own) (hd : decode cc pc = .ok (.isub, 1)) (hv : x - y = v) (k : TW G X S L (pc + 1) (.int v :: st)) : TW G X S L pc (.int y :: .int x :: st) := fun H locs ls hW hS hl => lv_isub C.1 C.2.1 hd (by rw [hv]; exact k H locs ls hW hS hl)
theorem tw_imul {x y v : Int32} (C : tw_C G X cc own) (hd : decode cc pc = .ok (.imul, 1)) (hv : x * y = v) (k : TW G X S L (pc + 1) (.int v :: st)) : TW G X S L pc (.int y :: .int x :: st) := fun H locs ls hW hS hl => lv_imul C.1 C.2.1 hd (by rw [hv]; exact k H locs ls hW hS hl)
theorem tw_iand {x y v : Int32} (C : tw_C G X cc own) (hd : decode cc pc = .ok (.iand, 1)) (hv : x &&& y = v) (k : TW G X S L (pc + 1) (.int v :: st)) : TW G X S L pc (.int y :: .int x :: st) := fun H locs ls hW hS hl => lv_iand C.1 C.2.1 hd (by rw [hv]; exact k H locs ls hW hS hl)
theorem tw_ior {x y v : Int32} (C : tw_C G X cc own) (hd : decode cc pc = .ok (.ior, 1)) (hv : x ||| y = v) (k : TW G X S L (pc + 1) (.int v :: st)) : TW G X S L pc (.int y :: .int x :: st) := fun H locs ls hW hS hl => lv_ior C.1 C.2.1 hd (by rw [hv]; exact k H locs ls hW hS hl)
theorem tw_ixor {x y v : Int32} (C : tw_C G X cc own) (hd : decode cc pc = .ok (.ixor, 1)) (hv : x ^^^ y = v) (k : TW G X S L (pc + 1) (.int v :: st)) : TW G X S L pc (.int y :: .int x :: st) := fun H locs ls hW hS hl => lv_ixor C.1 C.2.1 hd (by rw [hv]; exact k H locs ls hW hS hl)
theorem tw_land {x y v : Int64} (C : tw_C G X cc own) (hd : decode cc pc = .ok (.land, 1)) (hv : x &&& y = v) (k : TW G X S L (pc + 1) (.long v :: st)) : TW G X S L pc (.long y :: .long x :: st) := fun H locs ls hW hS hl => lv_land C.1 C.2.1 hd (by rw [hv]; exact k H locs ls hW hS hl)
theorem tw_lor {x y v : Int64} (C : tw_C G X cc own) (hd : decode cc pc = .ok (.lor, 1)) (hv : x ||| y = v) (k : TW G X S L (pc + 1) (.long v :: st)) : TW G X S L pc (.long y :: .long x :: st) := fun H locs ls hW hS hl => lv_lor C.1 C.2.1 hd (by rw [hv]; exact k H locs ls hW hS hl)
theorem tw_lxor {x y v : Int64} (C : tw_C G X cc own) (hd : decode cc pc = .ok (.lxor, 1)) (hv : x ^^^ y = v) (k : TW G X S L (pc + 1) (.long v :: st)) : TW G X S L pc (.long y :: .long x :: st) := fun H locs ls hW hS hl => lv_lxor C.1 C.2.1 hd (by rw [hv]; exact k H locs ls hW hS hl)
theorem tw_ishl {x y v : Int32} (C : tw_C G X cc own) (hd : decode cc pc = .ok (.ishl, 1)) (hv : x <<< (y &&& 31) = v) (k : TW G X S L (pc + 1) (.int v :: st)) : TW G X S L pc (.int y :: .int x :: st) := fun H locs ls hW hS hl => lv_ishl C.1 C.2.1 hd (by rw [hv]; exact k H locs ls hW hS hl)
theorem tw_ishr {x y v : Int32} (C : tw_C G X cc own) (hd : decode cc pc = .ok (.ishr, 1)) (hv : x >>> (y &&& 31) = v) (k : TW G X S L (pc + 1) (.int v :: st)) : TW G X S L pc (.int y :: .int x :: st) := fun H locs ls hW hS hl => lv_ishr C.1 C.2.1 hd (by rw [hv]; exact k H locs ls hW hS hl)
theorem tw_lshl {x v : Int64} {y : Int32} (C : tw_C G X cc own) (hd : decode cc pc = .ok (.lshl, 1)) (hv : x <<< (y.toInt64 &&& 63) = v) (k : TW G X S L (pc + 1) (.long v :: st)) : TW G X S L pc (.int y :: .long x :: st) := fun H locs ls hW hS hl => lv_lshl C.1 C.2.1 hd hv (k H locs ls hW hS hl)
theorem tw_lshr {x v : Int64} {y : Int32} (C : tw_C G X cc own) (hd : decode cc pc = .ok (.lshr, 1)) (hv : x >>> (y.toInt64 &&& 63) = v) (k : TW G X S L (pc + 1) (.long v :: st)) : TW G X S L pc (.int y :: .long x :: st) := fun H locs ls hW hS hl => lv_lshr C.1 C.2.1 hd hv (k H locs ls hW hS hl)
theorem tw_lushr {x v : Int64} {y : Int32} (C : tw_C G X cc own) (hd : decode cc pc = .ok (.lushr, 1)) (hv : (x.toUInt64 >>> (y.toInt64.toUInt64 &&& Int64.toUInt64 63)).toInt64 = v) (k : TW G X S L (pc + 1) (.long v :: st)) : TW G X S L pc (.int y :: .long x :: st) := fun H locs ls hW hS hl => lv_lushr C.1 C.2.1 hd hv (k H locs ls hW hS hl)
theorem tw_i2l {x : Int32} {v : Int64} (C : tw_C G X cc own) (hd : decode cc pc = .ok (.i2l, 1)) (hv : x.toInt64 = v) (k : TW G X S L (pc + 1) (.long v :: st)) : TW G X S L pc (.int x :: st) := fun H locs ls hW hS hl => lv_i2l C.1 C.2.1 hd hv (k H locs ls hW hS hl)
theorem tw_l2i {x : Int64} {v : Int32} (C : tw_C G X cc own) (hd : decode cc pc = .ok (.l2i, 1)) (hv : x.toInt32 = v) (k : TW G X S L (pc + 1) (.int v :: st)) : TW G X S L pc (.long x :: st) := fun H locs ls hW hS hl => lv_l2i C.1 C.2.1 hd hv (k H locs ls hW hS hl)
theorem tw_idiv {x y v : Int32} (C : tw_C G X cc own) (hd : decode cc pc = .ok (.idiv, 1)) (hne : ¬ y = 0) (hv : x / y = v) (k : TW G X S L (pc + 1) (.int v :: st)) : TW G X S L pc (.int y :: .int x :: st) := fun H locs ls hW hS hl => lv_idiv C.1 C.2.1 hd hne (by rw [hv]; exact k H locs ls hW hS hl)
theorem tw_irem {x y v : Int32} (C : tw_C G X cc own) (hd : decode cc pc = .ok (.irem, 1)) (hne : ¬ y = 0) (hv : x - x / y * y = v) (k : TW G X S L (pc + 1) (.int v :: st)) : TW G X S L pc (.int y :: .int x :: st) := fun H locs ls hW hS hl => lv_irem C.1 C.2.1 hd hne (by rw [hv]; exact k H locs ls hW hS hl)
theorem tw_lcmp {x y : Int64} (C : tw_C G X cc own) (hd : decode cc pc = .ok (.lcmp, 1)) (k : TW G X S L (pc + 1) (.int (lg_cmp x y) :: st)) : TW G X S L pc (.long y :: .long x :: st) := fun H locs ls hW hS hl => W.lcmp C.1 C.2.1 hd (k H locs ls hW hS hl)
theorem tw_dup {v : Value} (C : tw_C G X cc own) (hd : decode cc pc = .ok (.dup, 1)) (hv : v.category = 1) (k : TW G X S L (pc + 1) (v :: v :: st)) : TW G X S L pc (v :: st) := fun H locs ls hW hS hl => lv_dup C.1 C.2.1 hd hv (k H locs ls hW hS hl)
theorem tw_pop {v : Value} (C : tw_C G X cc own) (hd : decode cc pc = .ok (.pop, 1)) (hv : v.category = 1) (k : TW G X S L (pc + 1) (st)) : TW G X S L pc (v :: st) := fun H locs ls hW hS hl => lv_pop C.1 C.2.1 hd hv (k H locs ls hW hS hl)
theorem tw_dup2 {v w : Value} (C : tw_C G X cc own) (hd : decode cc pc = .ok (.dup2, 1)) (hv : v.category = 1) (hw : w.category = 1) (k : TW G X S L (pc + 1) (v :: w :: v :: w :: st)) : TW G X S L pc (v :: w :: st) := fun H locs ls hW hS hl => lv_dup2_11 C.1 C.2.1 hd hv hw (k H locs ls hW hS hl)
theorem tw_if_eq {x : Int32} {off : Int} {tgt : Nat} (C : tw_C G X cc own) (hd : decode cc pc = .ok (.ifCond .eq off, 3)) (ht : (pc : Int) + off = (tgt : Int)) (kt : x = 0 → TW G X S L tgt st) (kf : ¬ x = 0 → TW G X S L (pc + 3) st) : TW G X S L pc (.int x :: st) := fun H locs ls hW hS hl => lv_if_eq C.1 C.2.1 hd ht (fun c => kt c H locs ls hW hS hl) (fun c => kf c H locs ls hW hS hl)
theorem tw_icmp_eq {x y : Int32} {off : Int} {tgt : Nat} (C : tw_C G X cc own) (hd : decode cc pc = .ok (.if_icmp .eq off, 3)) (ht : (pc : Int) + off = (tgt : Int)) (kt : x = y → TW G X S L tgt st) (kf : ¬ x = y → TW G X S L (pc + 3) st) : TW G X S L pc (.int y :: .int x :: st) := fun H locs ls hW hS hl => lv_icmp_eq C.1 C.2.1 hd ht (fun c => kt c H locs ls hW hS hl) (fun c => kf c H locs ls hW hS hl)
theorem tw_if_ne {x : Int32} {off : Int} {tgt : Nat} (C : tw_C G X cc own) (hd : decode cc pc = .ok (.ifCond .ne off, 3)) (ht : (pc : Int) + off = (tgt : Int)) (kt : ¬ x = 0 → TW G X S L tgt st) (kf : x = 0 → TW G X S L (pc + 3) st) : TW G X S L pc (.int x :: st) := fun H locs ls hW hS hl => lv_if_ne C.1 C.2.1 hd ht (fun c => kt c H locs ls hW hS hl) (fun c => kf c H locs ls hW hS hl)
theorem tw_icmp_ne {x y : Int32} {off : Int} {tgt : Nat} (C : tw_C G X cc own) (hd : decode cc pc = .ok (.if_icmp .ne off, 3)) (ht : (pc : Int) + off = (tgt : Int)) (kt : ¬ x = y → TW G X S L tgt st) (kf : x = y → TW G X S L (pc + 3) st) : TW G X S L pc (.int y :: .int x :: st) := fun H locs ls hW hS hl => lv_icmp_ne C.1 C.2.1 hd ht (fun c => kt c H locs ls hW hS hl) (fun c => kf c H locs ls hW hS hl)
theorem tw_if_lt {x : Int32} {off : Int} {tgt : Nat} (C : tw_C G X cc own) (hd : decode cc pc = .ok (.ifCond .lt off, 3)) (ht : (pc : Int) + off = (tgt : Int)) (kt : x < 0 → TW G X S L tgt st) (kf : ¬ x < 0 → TW G X S L (pc + 3) st) : TW G X S L pc (.int x :: st) := fun H locs ls hW hS hl => lv_if_lt C.1 C.2.1 hd ht (fun c => kt c H locs ls hW hS hl) (fun c => kf c H locs ls hW hS hl)
theorem tw_icmp_lt {x y : Int32} {off : Int} {tgt : Nat} (C : tw_C G X cc own) (hd : decode cc pc = .ok (.if_icmp .lt off, 3)) (ht : (pc : Int) + off = (tgt : Int)) (kt : x < y → TW G X S L tgt st) (kf : ¬ x < y → TW G X S L (pc + 3) st) : TW G X S L pc (.int y :: .int x :: st) := fun H locs ls hW hS hl => lv_icmp_lt C.1 C.2.1 hd ht (fun c => kt c H locs ls hW hS hl) (fun c => kf c H locs ls hW hS hl)
theorem tw_if_ge {x : Int32} {off : Int} {tgt : Nat} (C : tw_C G X cc own) (hd : decode cc pc = .ok (.ifCond .ge off, 3)) (ht : (pc : Int) + off = (tgt : Int)) (kt : 0 ≤ x → TW G X S L tgt st) (kf : ¬ 0 ≤ x → TW G X S L (pc + 3) st) : TW G X S L pc (.int x :: st) := fun H locs ls hW hS hl => lv_if_ge C.1 C.2.1 hd ht (fun c => kt c H locs ls hW hS hl) (fun c => kf c H locs ls hW hS hl)
theorem tw_icmp_ge {x y : Int32} {off : Int} {tgt : Nat} (C : tw_C G X cc own) (hd : decode cc pc = .ok (.if_icmp .ge off, 3)) (ht : (pc : Int) + off = (tgt : Int)) (kt : y ≤ x → TW G X S L tgt st) (kf : ¬ y ≤ x → TW G X S L (pc + 3) st) : TW G X S L pc (.int y :: .int x :: st) := fun H locs ls hW hS hl => lv_icmp_ge C.1 C.2.1 hd ht (fun c => kt c H locs ls hW hS hl) (fun c => kf c H locs ls hW hS hl)
theorem tw_if_gt {x : Int32} {off : Int} {tgt : Nat} (C : tw_C G X cc own) (hd : decode cc pc = .ok (.ifCond .gt off, 3)) (ht : (pc : Int) + off = (tgt : Int)) (kt : 0 < x → TW G X S L tgt st) (kf : ¬ 0 < x → TW G X S L (pc + 3) st) : TW G X S L pc (.int x :: st) := fun H locs ls hW hS hl => lv_if_gt C.1 C.2.1 hd ht (fun c => kt c H locs ls hW hS hl) (fun c => kf c H locs ls hW hS hl)
theorem tw_icmp_gt {x y : Int32} {off : Int} {tgt : Nat} (C : tw_C G X cc own) (hd : decode cc pc = .ok (.if_icmp .gt off, 3)) (ht : (pc : Int) + off = (tgt : Int)) (kt : y < x → TW G X S L tgt st) (kf : ¬ y < x → TW G X S L (pc + 3) st) : TW G X S L pc (.int y :: .int x :: st) := fun H locs ls hW hS hl => lv_icmp_gt C.1 C.2.1 hd ht (fun c => kt c H locs ls hW hS hl) (fun c => kf c H locs ls hW hS hl)
theorem tw_if_le {x : Int32} {off : Int} {tgt : Nat} (C : tw_C G X cc own) (hd : decode cc pc = .ok (.ifCond .le off, 3)) (ht : (pc : Int) + off = (tgt : Int)) (kt : x ≤ 0 → TW G X S L tgt st) (kf : ¬ x ≤ 0 → TW G X S L (pc + 3) st) : TW G X S L pc (.int x :: st) := fun H locs ls hW hS hl => lv_if_le C.1 C.2.1 hd ht (fun c => kt c H locs ls hW hS hl) (fun c => kf c H locs ls hW hS hl)
theorem tw_icmp_le {x y : Int32} {off : Int} {tgt : Nat} (C : tw_C G X cc own) (hd : decode cc pc = .ok (.if_icmp .le off, 3)) (ht : (pc : Int) + off = (tgt : Int)) (kt : x ≤ y → TW G X S L tgt st) (kf : ¬ x ≤ y → TW G X S L (pc + 3) st) : TW G X S L pc (.int y :: .int x :: st) := fun H locs ls hW hS hl => lv_icmp_le C.1 C.2.1 hd ht (fun c => kt c H locs ls hW hS hl) (fun c => kf c H locs ls hW hS hl)
theorem tw_goto {off : Int} {tgt : Nat} (C : tw_C G X cc own) (hd : decode cc pc = .ok (.goto off, 3)) (ht : (pc : Int) + off = (tgt : Int)) (k : TW G X S L tgt st) : TW G X S L pc st := fun H locs ls hW hS hl => lv_goto C.1 C.2.1 hd ht (k H locs ls hW hS hl)
theorem tw_tabOut {dflt lo hi : Int} {offs : Array Int} {len : Nat} {x : Int32} {tgt : Nat} (C : tw_C G X cc own) (hd : decode cc pc = .ok (.tableswitch dflt lo hi offs, len)) (h : x.toInt < lo ∨ hi < x.toInt) (ht : (pc : Int) + dflt = (tgt : Int)) (k : TW G X S L tgt st) : TW G X S L pc (.int x :: st) := fun H locs ls hW hS hl => lv_tableOut C.1 C.2.1 hd h ht (k H locs ls hW hS hl)
theorem tw_tabIn {dflt lo hi : Int} {offs : Array Int} {len : Nat} {x : Int32} {off : Int} {tgt : Nat} (C : tw_C G X cc own) (hd : decode cc pc = .ok (.tableswitch dflt lo hi offs, len)) (h1 : ¬ x.toInt < lo) (h2 : ¬ hi < x.toInt) (ho : offs[(x.toInt - lo).toNat]? = some off) (ht : (pc : Int) + off = (tgt : Int)) (k : TW G X S L tgt st) : TW G X S L pc (.int x :: st) := fun H locs ls hW hS hl => lv_tableIn C.1 C.2.1 hd h1 h2 ho ht (k H locs ls hW hS hl)
theorem tw_lookup {dflt : Int} {ps : Array (Int × Int)} {len : Nat} {x : Int32} {off : Int} {tgt : Nat} (C : tw_C G X cc own) (hd : decode cc pc = .ok (.lookupswitch dflt ps, len)) (hp : (ps.toList.zip (ps.toList.drop 1)).all (fun (a, next) => a.1 < next.1) = true) (ho : Op.lookupswitch.offset ps.toList dflt x.toInt = off) (ht : (pc : Int) + off = (tgt : Int)) (k : TW G X S L tgt st) : TW G X S L pc (.int x :: st) := fun H locs ls hW hS hl => lv_lookup C.1 C.2.1 hd hp ho ht (k H locs ls hW hS hl)
theorem tw_C.ow (C : tw_C G X cc own) : (tx_s X).vm.findClass own = some (tx_m X).cls := C.2.2.2.1
theorem tw_C.ts (C : tw_C G X cc own) : ∀ w ∈ lw_g, w.before (tx_a X) (tx_s X) = true := C.2.2.2.2.1
theorem tw_C.E (C : tw_C G X cc own) : tw_E G (tx_A X) (tx_s X) := C.2.2.2.2.2.1
theorem tw_C.Z (C : tw_C G X cc own) : tw_Z G (tx_A X) (tx_s X) (tx_s X).heap := C.2.2.2.2.2.2.1
theorem tw_C.A (C : tw_C G X cc own) : ∀ q, (tx_s X).heap.size ≤ q → tx_A X q := C.2.2.2.2.2.2.2.1
theorem tw_C.lk (C : tw_C G X cc own) : (tx_t X).locks = false := C.2.2.2.2.2.2.2.2
/-- a class of ours: its place, its fields, what the tables say of them -/
def tw_F (ci : Nat) (CN : String) (T : u_T) (N : Nat) (ty : Nat → FieldType) : Prop := vwCl[ci]? = some (CN, T, N) ∧ (∀ w ∈ u_ws CN T N, w ∈ lw_g) ∧ (∀ k, k < N → parseFieldDescriptor (T k).2.2.1 = some (ty k)) ∧ ∀ a, a < N → ∀ b, b < N → a ≠ b → (T a).2.1 ≠ (T b).2.1
theorem tw_at {r : Nat} {f : Nat → va_E} (C : tw_C G X cc own) (hP : tw_P G r) : ∃ k : Nat, (([] : va_W) ++ va_pl (tw_LA G) f)[k]? = some (tw_ad G r, f (tw_ad G r)) := va_pl_get (C.E.2.2.1 r hP)
theorem tw_getv {idx r ci k c' N : Nat} {cs : List Nat} {CN : String} {T : u_T} {ty : Nat → FieldType} (C : tw_C G X cc own) (hd : decode cc pc = .ok (.getfield idx, 3)) (F : tw_F ci CN T N ty) (hsh : tw_sh r = some (ci, cs)) (hP : tw_P G r) (hk : cs[k]? = some c') (hkN : k < N) (hw : Cond.fieldLink own idx (T k).1 (T k).2.1 (T k).2.2.1 ∈ lw_g) (kk : TW G X S L (pc + 3) (tw_fv (tw_ad G) S r k c' :: st)) : TW G X S L pc (.ref (tw_ad G r) :: st) := by
  intro H locs ls hW hS hl
  have hW0 := hW
  obtain ⟨hwf, f, hPf, hen⟩ := hW
  have he := hen r hP
  simp only [tw_en, hsh] at he
  obtain ⟨q0, hq0⟩ := tw_at (f := f) C hP
  rw [he] at hq0
  exact va_get (D := tw_D G) (C := CN) (T := T) (N := N) C.1 C.2.1 C.ts F.2.1 C.ow C.E.1 (show va_P (tw_D G) vwCl (([] : va_W) ++ va_pl (tw_LA G) f) H from hPf) q0 hq0 F.1 k hkN (C.ts _ hw) (fun _ h => h) (by rw [tw_fl_get, hk]; simp only [Option.map_some, Nat.zero_add]) hd (kk H locs ls hW0 hS hl)
theorem tw_getI {idx r ci k N : Nat} {cs : List Nat} {CN : String} {T : u_T} {ty : Nat → FieldType} (C : tw_C G X cc own) (hd : decode cc pc = .ok (.getfield idx, 3)) (F : tw_F ci CN T N ty) (hsh : tw_sh r = some (ci, cs)) (hP : tw_P G r) (hk : cs[k]? = some 0) (hkN : k < N) (hw : Cond.fieldLink own idx (T k).1 (T k).2.1 (T k).2.2.1 ∈ lw_g) {v : Int32} (hv : tw_I S r k = v) (kk : TW G X S L (pc + 3) (.int v :: st)) : TW G X S L pc (.ref (tw_ad G r) :: st) := tw_getv C hd F hsh hP hk hkN hw (by subst hv; exact kk)
theorem tw_getJ {idx r ci k N : Nat} {cs : List Nat} {CN : String} {T : u_T} {ty : Nat → FieldType} (C : tw_C G X cc own) (hd : decode cc pc = .ok (.getfield idx, 3)) (F : tw_F ci CN T N ty) (hsh : tw_sh r = some (ci, cs)) (hP : tw_P G r) (hk : cs[k]? = some 1) (hkN : k < N) (hw : Cond.fieldLink own idx (T k).1 (T k).2.1 (T k).2.2.1 ∈ lw_g) {v : Int64} (hv : tw_J S r k = v) (kk : TW G X S L (pc + 3) (.long v :: st)) : TW G X S L pc (.ref (tw_ad G r) :: st) := tw_getv C hd F hsh hP hk hkN hw (by subst hv; exact kk)
theorem tw_getN {idx r ci k N : Nat} {cs : List Nat} {CN : String} {T : u_T} {ty : Nat → FieldType} (C : tw_C G X cc own) (hd : decode cc pc = .ok (.getfield idx, 3)) (F : tw_F ci CN T N ty) (hsh : tw_sh r = some (ci, cs)) (hP : tw_P G r) (hk : cs[k]? = some 2) (hkN : k < N) (hw : Cond.fieldLink own idx (T k).1 (T k).2.1 (T k).2.2.1 ∈ lw_g) (kk : TW G X S L (pc + 3) (.int (nI (tw_R S r).length) :: st)) : TW G X S L pc (.ref (tw_ad G r) :: st) := tw_getv C hd F hsh hP hk hkN hw kk
theorem tw_getR {idx r ci k N q : Nat} {cs : List Nat} {CN : String} {T : u_T} {ty : Nat → FieldType} (C : tw_C G X cc own) (hd : decode cc pc = .ok (.getfield idx, 3)) (F : tw_F ci CN T N ty) (hsh : tw_sh r = some (ci, cs)) (hP : tw_P G r) (hk : cs[k]? = some (q + 3)) (hkN : k < N) (hw : Cond.fieldLink own idx (T k).1 (T k).2.1 (T k).2.2.1 ∈ lw_g) (kk : TW G X S L (pc + 3) (.ref (tw_ad G q) :: st)) : TW G X S L pc (.ref (tw_ad G r) :: st) := tw_getv C hd F hsh hP hk hkN hw (by
    have e : tw_fv (tw_ad G) S r k (q + 3) = .ref (tw_ad G q) := by simp [tw_fv]
    rw [e]; exact kk)
theorem tw_putv {idx r ci k N : Nat} {cs : List Nat} {CN : String} {T : u_T} {ty : Nat → FieldType} {v : Value} {S' : tw_S} (C : tw_C G X cc own) (hd : decode cc pc = .ok (.putfield idx, 3)) (F : tw_F ci CN T N ty) (hsh : tw_sh r = some (ci, cs)) (hP : tw_P G r) (hkN : k < N) (hkl : k < cs.length) (hfin : (T k).2.2.2 = false) (hw : Cond.fieldLink own idx (T k).1 (T k).2.1 (T k).2.2.1 ∈ lw_g) (hn : narrow (ty k) v = v) (hf : fits (ty k) v = true)
    (hag : ∀ q, q ≠ r → ∀ e, tw_en G S q e → tw_en G S' q e) (hS' : ∀ j c, cs[j]? = some c → tw_fv (tw_ad G) S' r j c = if j = k then v else tw_fv (tw_ad G) S r j c) (hwf' : tw_wf G S → tw_wf G S') (kk : TW G X S' L (pc + 3) st) : TW G X S L pc (v :: .ref (tw_ad G r) :: st) := by
  intro H locs ls hW hS hl
  obtain ⟨hwf, f, hPf, hen⟩ := hW
  have he := hen r hP
  simp only [tw_en, hsh] at he
  obtain ⟨q0, hq0⟩ := tw_at (f := f) C hP
  have hq1 := hq0
  rw [he] at hq1
  have hDf : va_D (tx_A X) (([] : va_W) ++ va_pl (tw_LA G) f) := C.E.2.1 f
  refine va_put (D := tw_D G) (cl := vwCl) (ws := ([] : va_W) ++ va_pl (tw_LA G) f) (A := tx_A X) (H0 := (tx_s X).heap) (v := v) (ty := ty k) (C := CN) (T := T) (N := N) C.1 C.2.1 C.ts F.2.1 ty F.2.2.1 F.2.2.2 C.ow C.E.1 (show va_P (tw_D G) vwCl (([] : va_W) ++ va_pl (tw_LA G) f) H from hPf) hDf hS q0 hq1 F.1 k hkN (C.ts _ hw) (fun _ h => h) hfin (F.2.2.1 k hkN) hn hf (by rw [tw_fl_len]; exact hkl) hd (fun H1 locs1 hP1 hD1 hS1 => ?_)
  rw [va_pl_set hDf (C.E.2.2.1 r hP) hq0] at hP1
  refine kk H1 locs1 ls ⟨hwf' hwf, va_up f (tw_ad G r) _, hP1, fun q hq => ?_⟩ hS1 hl
  by_cases hqr : q = r
  · subst hqr
    rw [va_up_self]
    simp only [tw_en, hsh]
    rw [tw_fl_set hS']
  · rw [va_up_ne _ _ (fun z => hqr (C.E.2.2.2 q r hq hP z))]
    exact hag q hqr _ (hen q hq)
theorem tw_ag_uI {r k q : Nat} {x : Int32} (h : q ≠ r) : tw_ag q S (tw_uI S r k x) := ⟨rfl, rfl, by funext j; simp [tw_I, tw_uI, h], rfl, rfl, rfl⟩
theorem tw_ag_uJ {r k q : Nat} {x : Int64} (h : q ≠ r) : tw_ag q S (tw_uJ S r k x) := ⟨rfl, rfl, rfl, by funext j; simp [tw_J, tw_uJ, h], rfl, rfl⟩
theorem tw_ag_uA {r k q : Nat} {x : Int32} (h : q ≠ r) : tw_ag q S (tw_uA S r k x) := ⟨rfl, rfl, rfl, rfl, by funext j; simp [tw_A, tw_uA, h], rfl⟩
theorem tw_ag_uB {r k q : Nat} {x : Int64} (h : q ≠ r) : tw_ag q S (tw_uB S r k x) := ⟨rfl, rfl, rfl, rfl, rfl, by funext j; simp [tw_B, tw_uB, h]⟩
theorem tw_ag_uR {r q : Nat} {xs : List Nat} (h : q ≠ r) (h1 : q ≠ r + 1) (h0 : 1 ≤ r) : tw_ag q S (tw_uR S r xs) := by
  have h2 : q - 1 ≠ r := by omega
  exact ⟨by simp [tw_R, tw_uR, h], by simp [tw_R, tw_uR, h2], rfl, rfl, rfl, rfl⟩
theorem tw_putI {idx r ci k N : Nat} {cs : List Nat} {CN : String} {T : u_T} {ty : Nat → FieldType} {x : Int32} (C : tw_C G X cc own) (hd : decode cc pc = .ok (.putfield idx, 3)) (F : tw_F ci CN T N ty) (hsh : tw_sh r = some (ci, cs)) (hP : tw_P G r) (hk : cs[k]? = some 0) (hkN : k < N) (hfin : (T k).2.2.2 = false) (hw : Cond.fieldLink own idx (T k).1 (T k).2.1 (T k).2.2.1 ∈ lw_g) (hn : narrow (ty k) (.int x) = .int x) (hf : fits (ty k) (.int x) = true) (kk : TW G X (tw_uI S r k x) L (pc + 3) st) : TW G X S L pc (.int x :: .ref (tw_ad G r) :: st) := by
  refine tw_putv C hd F hsh hP hkN (List.getElem?_eq_some_iff.mp hk).1 hfin hw hn hf (fun q hq e h => tw_en_ag (tw_ag_uI hq) h) (fun j c hj => ?_) (fun h => h) kk
  by_cases hjk : j = k
  · subst hjk
    rw [hk] at hj
    cases hj
    simp [tw_fv, tw_I, tw_uI]
  · simp [tw_fv, tw_I, tw_uI, tw_R, tw_J, hjk]
theorem tw_putJ {idx r ci k N : Nat} {cs : List Nat} {CN : String} {T : u_T} {ty : Nat → FieldType} {x : Int64} (C : tw_C G X cc own) (hd : decode cc pc = .ok (.putfield idx, 3)) (F : tw_F ci CN T N ty) (hsh : tw_sh r = some (ci, cs)) (hP : tw_P G r) (hk : cs[k]? = some 1) (hkN : k < N) (hfin : (T k).2.2.2 = false) (hw : Cond.fieldLink own idx (T k).1 (T k).2.1 (T k).2.2.1 ∈ lw_g) (hn : narrow (ty k) (.long x) = .long x) (hf : fits (ty k) (.long x) = true) (kk : TW G X (tw_uJ S r k x) L (pc + 3) st) : TW G X S L pc (.long x :: .ref (tw_ad G r) :: st) := by
  refine tw_putv C hd F hsh hP hkN (List.getElem?_eq_some_iff.mp hk).1 hfin hw hn hf (fun q hq e h => tw_en_ag (tw_ag_uJ hq) h) (fun j c hj => ?_) (fun h => h) kk
  by_cases hjk : j = k
  · subst hjk
    rw [hk] at hj
    cases hj
    simp [tw_fv, tw_J, tw_uJ]
  · simp [tw_fv, tw_I, tw_uJ, tw_R, tw_J, hjk]
theorem tw_row_lt {r : Nat} (h : tw_isRow r = true) : 1 ≤ r ∧ r < 114 := by
  simp only [tw_isRow, Bool.or_eq_true, Bool.and_eq_true, beq_iff_eq, decide_eq_true_eq] at h
  omega
theorem tw_row_sh0 : ∀ r, r < 114 → tw_isRow r = true → tw_sh (r + 1) = none ∧ tw_sh r = some (5, [r + 4, 2]) ∧ tw_ar (r + 1) = some (3, tw_cap r) ∧ tw_cap r ≤ 640 := by decide +kernel
theorem tw_row_sh {r : Nat} (h : tw_isRow r = true) : tw_sh r = some (5, [r + 4, 2]) := (tw_row_sh0 r (tw_row_lt h).2 h).2.1
theorem tw_row_a0 {r : Nat} (h : tw_isRow r = true) : tw_sh (r + 1) = none := (tw_row_sh0 r (tw_row_lt h).2 h).1
theorem tw_row_ar {r : Nat} (h : tw_isRow r = true) : tw_ar (r + 1) = some (3, tw_cap r) := (tw_row_sh0 r (tw_row_lt h).2 h).2.2.1
theorem tw_row_cap {r : Nat} (h : tw_isRow r = true) : tw_cap r ≤ 640 := (tw_row_sh0 r (tw_row_lt h).2 h).2.2.2
theorem tw_en_uR {G : tw_G} {S : tw_S} {r q : Nat} {xs : List Nat} {e : va_E} (hr : tw_isRow r = true) (hq : q ≠ r) (hx : q = r + 1 → ∀ g : Nat → Int32, (∀ (i x : Nat), (tw_R S r)[i]? = some x → g i = nI x) → ∀ (i x : Nat), xs[i]? = some x → g i = nI x) (he : tw_en G S q e) : tw_en G (tw_uR S r xs) q e := by
  by_cases h1 : q = r + 1
  · subst h1
    unfold tw_en at he ⊢
    simp only [tw_row_a0 hr, tw_row_ar hr, Nat.add_sub_cancel] at he ⊢
    obtain ⟨g, e1, e2⟩ := he
    refine ⟨g, e1, ?_⟩
    have hR : tw_R (tw_uR S r xs) r = xs := by simp [tw_R, tw_uR]
    rw [hR]
    exact hx rfl g e2
  · exact tw_en_ag (tw_ag_uR hq h1 (tw_row_lt hr).1) he
theorem tw_wf_uR {G : tw_G} {S : tw_S} {r : Nat} {xs : List Nat} (h : tw_wf G S) (hl : xs.length ≤ tw_cap r) (hb : ∀ x ∈ xs, x < 256) : tw_wf G (tw_uR S r xs) := by
  intro q hq hr
  by_cases h1 : q = r
  · subst h1
    have hR : tw_R (tw_uR S q xs) q = xs := by simp [tw_R, tw_uR]
    rw [hR]
    exact ⟨hl, hb⟩
  · have hR : tw_R (tw_uR S r xs) q = tw_R S q := by simp [tw_R, tw_uR, h1]
    rw [hR]
    exact h q hq hr
/-- a row gets shorter -/
theorem tw_putN {idx r N n : Nat} {CN : String} {T : u_T} {ty : Nat → FieldType} (C : tw_C G X cc own) (hd : decode cc pc = .ok (.putfield idx, 3)) (F : tw_F 5 CN T N ty) (hr : tw_isRow r = true) (hP : tw_P G r) (hkN : 1 < N) (hfin : (T 1).2.2.2 = false) (hw : Cond.fieldLink own idx (T 1).1 (T 1).2.1 (T 1).2.2.1 ∈ lw_g) (hty : ty 1 = .int) (hn : n ≤ (tw_R S r).length) (kk : TW G X (tw_uR S r ((tw_R S r).take n)) L (pc + 3) st) : TW G X S L pc (.int (nI n) :: .ref (tw_ad G r) :: st) := by
  refine tw_putv C hd F (tw_row_sh hr) hP hkN (by simp) hfin hw (by rw [hty]; rfl) (by rw [hty]; rfl) (fun q hq e h => tw_en_uR hr hq (fun _ g hg i x hi => ?_) h) (fun j c hj => ?_) (fun h => tw_wf_uR h ?_ ?_) kk
  · rw [List.getElem?_take] at hi
    split at hi
    · exact hg i x hi
    · cases hi
  · match j, hj with
    | 0, hj =>
      have hc : c = r + 4 := by simpa using hj.symm
      subst hc
      simp [tw_fv]
    | 1, hj =>
      have hc : c = 2 := by simpa using hj.symm
      subst hc
      simp [tw_fv, tw_R, tw_uR]
      have : min n (S.1 r).length = n := Nat.min_eq_left hn
      rw [this]
    | j + 2, hj => simp at hj
  · rw [List.length_take]
    exact Nat.le_trans (Nat.min_le_right _ _) (h r hP hr).1
  · exact fun x hx => (h r hP hr).2 x (List.mem_of_mem_take hx)
/-! arrays -/
theorem tw_enA {r n : Nat} {e : va_E} (h0 : tw_sh r = none) (h1 : tw_ar r = some (0, n)) (he : tw_en G S r e) : e = .inl (tw_cy G 0, n, .inl (tw_A S r)) := by
  simpa only [tw_en, h0, h1] using he
theorem tw_en1 {r n : Nat} {e : va_E} (h0 : tw_sh r = none) (h1 : tw_ar r = some (1, n)) (he : tw_en G S r e) : e = .inl (tw_cy G 1, n, .inl (tw_A S r)) := by
  simpa only [tw_en, h0, h1] using he
theorem tw_en2 {r n : Nat} {e : va_E} (h0 : tw_sh r = none) (h1 : tw_ar r = some (2, n)) (he : tw_en G S r e) : e = .inl (tw_cy G 2, n, .inr (.inl (tw_B S r))) := by
  simpa only [tw_en, h0, h1] using he
theorem tw_cl {i : Nat} (h : i < 2 ^ 31) : (nI i).toNatClampNeg = i := nI_clamp h
theorem tw_iald {r n i : Nat} {v : Int32} (C : tw_C G X cc own) (hd : decode cc pc = .ok (.iaload, 1)) (h0 : tw_sh r = none) (h1 : tw_ar r = some (0, n)) (hP : tw_P G r) (hi : i < n) (hn : n < 2 ^ 31) (hv : tw_A S r i = v) (kk : TW G X S L (pc + 1) (.int v :: st)) : TW G X S L pc (.int (nI i) :: .ref (tw_ad G r) :: st) := by
  intro H locs ls hW hS hl
  have hW0 := hW
  obtain ⟨hwf, f, hPf, hen⟩ := hW
  obtain ⟨q0, hq0⟩ := tw_at (f := f) C hP
  rw [tw_enA h0 h1 (hen r hP)] at hq0
  refine va_iald (D := tw_D G) (tys := tw_tys G) C.1 C.2.1 C.E.1 (show va_P (tw_D G) vwCl (([] : va_W) ++ va_pl (tw_LA G) f) H from hPf) q0 0 hq0 rfl (vp_in_nI hi hn) hd ?_
  rw [nI_clamp (by omega), hv]
  exact kk H locs ls hW0 hS hl
theorem tw_zald {r n i : Nat} {v : Int32} (C : tw_C G X cc own) (hd : decode cc pc = .ok (.baload, 1)) (h0 : tw_sh r = none) (h1 : tw_ar r = some (1, n)) (hP : tw_P G r) (hi : i < n) (hn : n < 2 ^ 31) (hv : tw_A S r i = v) (kk : TW G X S L (pc + 1) (.int v :: st)) : TW G X S L pc (.int (nI i) :: .ref (tw_ad G r) :: st) := by
  intro H locs ls hW hS hl
  have hW0 := hW
  obtain ⟨hwf, f, hPf, hen⟩ := hW
  obtain ⟨q0, hq0⟩ := tw_at (f := f) C hP
  rw [tw_en1 h0 h1 (hen r hP)] at hq0
  refine va_zald (D := tw_D G) (tys := tw_tys G) C.1 C.2.1 C.E.1 (show va_P (tw_D G) vwCl (([] : va_W) ++ va_pl (tw_LA G) f) H from hPf) q0 1 hq0 rfl (vp_in_nI hi hn) hd ?_
  rw [nI_clamp (by omega), hv]
  exact kk H locs ls hW0 hS hl
theorem tw_lald {r n i : Nat} {v : Int64} (C : tw_C G X cc own) (hd : decode cc pc = .ok (.laload, 1)) (h0 : tw_sh r = none) (h1 : tw_ar r = some (2, n)) (hP : tw_P G r) (hi : i < n) (hn : n < 2 ^ 31) (hv : tw_B S r i = v) (kk : TW G X S L (pc + 1) (.long v :: st)) : TW G X S L pc (.int (nI i) :: .ref (tw_ad G r) :: st) := by
  intro H locs ls hW hS hl
  have hW0 := hW
  obtain ⟨hwf, f, hPf, hen⟩ := hW
  obtain ⟨q0, hq0⟩ := tw_at (f := f) C hP
  rw [tw_en2 h0 h1 (hen r hP)] at hq0
  refine va_lald (D := tw_D G) (tys := tw_tys G) C.1 C.2.1 C.E.1 (show va_P (tw_D G) vwCl (([] : va_W) ++ va_pl (tw_LA G) f) H from hPf) q0 2 hq0 rfl (vp_in_nI hi hn) hd ?_
  rw [nI_clamp (by omega), hv]
  exact kk H locs ls hW0 hS hl
/-- frames' rows, heaps -/
theorem tw_aald4 {r n i : Nat} (C : tw_C G X cc own) (hd : decode cc pc = .ok (.aaload, 1)) (h0 : tw_sh r = none) (h1 : tw_ar r = some (4, n)) (hP : tw_P G r) (hi : i < n) (hn : n < 2 ^ 31) (kk : TW G X S L (pc + 1) (.ref (tw_ad G (34 + 2 * i)) :: st)) : TW G X S L pc (.int (nI i) :: .ref (tw_ad G r) :: st) := by
  intro H locs ls hW hS hl
  have hW0 := hW
  obtain ⟨hwf, f, hPf, hen⟩ := hW
  obtain ⟨q0, hq0⟩ := tw_at (f := f) C hP
  have he := hen r hP
  simp only [tw_en, h0, h1] at he
  rw [he] at hq0
  refine va_aldq (D := tw_D G) (tys := tw_tys G) C.1 C.2.1 C.E.1 (show va_P (tw_D G) vwCl (([] : va_W) ++ va_pl (tw_LA G) f) H from hPf) q0 3 hq0 rfl (vp_in_nI hi hn) hd ?_
  rw [nI_clamp (by omega)]
  exact kk H locs ls hW0 hS hl
theorem tw_aald5 {r n i : Nat} (C : tw_C G X cc own) (hd : decode cc pc = .ok (.aaload, 1)) (h0 : tw_sh r = none) (h1 : tw_ar r = some (5, n)) (hP : tw_P G r) (hi : i < n) (hn : n < 2 ^ 31) (kk : TW G X S L (pc + 1) (.ref (tw_ad G (22 + 4 * i)) :: st)) : TW G X S L pc (.int (nI i) :: .ref (tw_ad G r) :: st) := by
  intro H locs ls hW hS hl
  have hW0 := hW
  obtain ⟨hwf, f, hPf, hen⟩ := hW
  obtain ⟨q0, hq0⟩ := tw_at (f := f) C hP
  have he := hen r hP
  simp only [tw_en, h0, h1] at he
  rw [he] at hq0
  refine va_aldq (D := tw_D G) (tys := tw_tys G) C.1 C.2.1 C.E.1 (show va_P (tw_D G) vwCl (([] : va_W) ++ va_pl (tw_LA G) f) H from hPf) q0 4 hq0 rfl (vp_in_nI hi hn) hd ?_
  rw [nI_clamp (by omega)]
  exact kk H locs ls hW0 hS hl
theorem tw_rald {r i x : Nat} (C : tw_C G X cc own) (hd : decode cc pc = .ok (.iaload, 1)) (hr : tw_isRow r = true) (hP : tw_P G r) (hP1 : tw_P G (r + 1)) (hx : (tw_R S r)[i]? = some x) (kk : TW G X S L (pc + 1) (.int (nI x) :: st)) : TW G X S L pc (.int (nI i) :: .ref (tw_ad G (r + 1)) :: st) := by
  intro H locs ls hW hS hl
  have hW0 := hW
  obtain ⟨hwf, f, hPf, hen⟩ := hW
  obtain ⟨q0, hq0⟩ := tw_at (f := f) C hP1
  have he := hen _ hP1
  simp only [tw_en, tw_row_a0 hr, tw_row_ar hr, Nat.add_sub_cancel] at he
  obtain ⟨g, he, hg⟩ := he
  rw [he] at hq0
  have hc := tw_row_cap hr
  have hil := (List.getElem?_eq_some_iff.mp hx).1
  have hlc := (hwf r hP hr).1
  refine va_iald (D := tw_D G) (tys := tw_tys G) C.1 C.2.1 C.E.1 (show va_P (tw_D G) vwCl (([] : va_W) ++ va_pl (tw_LA G) f) H from hPf) q0 0 hq0 rfl (vp_in_nI (by omega) (by omega)) hd ?_
  rw [nI_clamp (by omega), hg i x hx]
  exact kk H locs ls hW0 hS hl
theorem tw_alen {r kd n : Nat} (C : tw_C G X cc own) (hd : decode cc pc = .ok (.arraylength, 1)) (h0 : tw_sh r = none) (h1 : tw_ar r = some (kd, n)) (hkd : kd = 0 ∨ kd = 3) (hP : tw_P G r) (kk : TW G X S L (pc + 1) (.int (nI n) :: st)) : TW G X S L pc (.ref (tw_ad G r) :: st) := by
  intro H locs ls hW hS hl
  have hW0 := hW
  obtain ⟨hwf, f, hPf, hen⟩ := hW
  obtain ⟨q0, hq0⟩ := tw_at (f := f) C hP
  have he := hen r hP
  have key : ∃ g : Nat → Int32, f (tw_ad G r) = .inl (tw_cy G 0, n, .inl g) := by
    rcases hkd with rfl | rfl
    · exact ⟨_, tw_enA h0 h1 he⟩
    · simp only [tw_en, h0, h1] at he
      obtain ⟨g, he, -⟩ := he
      exact ⟨g, he⟩
  obtain ⟨g, hg⟩ := key
  rw [hg] at hq0
  exact va_alen (D := tw_D G) (tys := tw_tys G) C.1 C.2.1 C.E.1 (show va_P (tw_D G) vwCl (([] : va_W) ++ va_pl (tw_LA G) f) H from hPf) q0 0 hq0 rfl rfl hd (kk H locs ls hW0 hS hl)
theorem tw_ast0 {r : Nat} {S' : tw_S} {e : va_E} {f : Nat → va_E} {H1 : Heap} {k : Nat} (C : tw_C G X cc own) (hP : tw_P G r) (hwf : tw_wf G S') (hen : ∀ q, tw_P G q → tw_en G S q (f (tw_ad G q))) (hk : (([] : va_W) ++ va_pl (tw_LA G) f)[k]? = some (tw_ad G r, f (tw_ad G r))) (hP1 : va_P (tw_D G) vwCl ((([] : va_W) ++ va_pl (tw_LA G) f).set k (tw_ad G r, e)) H1) (hag : ∀ q, q ≠ r → ∀ e, tw_en G S q e → tw_en G S' q e) (he : tw_en G S' r e) : tw_W G S' H1 := by
  have hDf : va_D (tx_A X) (([] : va_W) ++ va_pl (tw_LA G) f) := C.E.2.1 f
  rw [va_pl_set hDf (C.E.2.2.1 r hP) hk] at hP1
  refine ⟨hwf, va_up f (tw_ad G r) e, hP1, fun q hq => ?_⟩
  by_cases hqr : q = r
  · subst hqr
    rw [va_up_self]
    exact he
  · rw [va_up_ne _ _ (fun z => hqr (C.E.2.2.2 q r hq hP z))]
    exact hag q hqr _ (hen q hq)
theorem tw_iast {r n i : Nat} {x : Int32} (C : tw_C G X cc own) (hd : decode cc pc = .ok (.iastore, 1)) (h0 : tw_sh r = none) (h1 : tw_ar r = some (0, n)) (hP : tw_P G r) (hi : i < n) (hn : n < 2 ^ 31) (kk : TW G X (tw_uA S r i x) L (pc + 1) st) : TW G X S L pc (.int x :: .int (nI i) :: .ref (tw_ad G r) :: st) := by
  intro H locs ls hW hS hl
  obtain ⟨hwf, f, hPf, hen⟩ := hW
  obtain ⟨q0, hq0⟩ := tw_at (f := f) C hP
  have hq1 := hq0
  rw [tw_enA h0 h1 (hen r hP)] at hq1
  refine va_iast (D := tw_D G) (tys := tw_tys G) C.1 C.2.1 C.E.1 (show va_P (tw_D G) vwCl (([] : va_W) ++ va_pl (tw_LA G) f) H from hPf) (C.E.2.1 f) hS q0 0 hq1 rfl (vp_in_nI hi hn) hd (fun H1 locs1 hP1 hD1 hS1 => ?_)
  rw [nI_clamp (by omega)] at hP1
  refine kk H1 locs1 ls (tw_ast0 (S' := tw_uA S r i x) C hP hwf hen hq0 hP1 (fun q hq e h => tw_en_ag (tw_ag_uA hq) h) ?_) hS1 hl
  simp only [tw_en, h0, h1]
  congr 4
  funext j
  by_cases hj : j = i <;> simp [tw_A, tw_uA, upd, hj]
theorem tw_zast {r n i : Nat} {x y : Int32} (C : tw_C G X cc own) (hd : decode cc pc = .ok (.bastore, 1)) (h0 : tw_sh r = none) (h1 : tw_ar r = some (1, n)) (hP : tw_P G r) (hi : i < n) (hn : n < 2 ^ 31) (hx : vp_nar .boolean x = y) (kk : TW G X (tw_uA S r i y) L (pc + 1) st) : TW G X S L pc (.int x :: .int (nI i) :: .ref (tw_ad G r) :: st) := by
  intro H locs ls hW hS hl
  obtain ⟨hwf, f, hPf, hen⟩ := hW
  obtain ⟨q0, hq0⟩ := tw_at (f := f) C hP
  have hq1 := hq0
  rw [tw_en1 h0 h1 (hen r hP)] at hq1
  refine va_zast (D := tw_D G) (tys := tw_tys G) C.1 C.2.1 C.E.1 (show va_P (tw_D G) vwCl (([] : va_W) ++ va_pl (tw_LA G) f) H from hPf) (C.E.2.1 f) hS q0 1 hq1 rfl (vp_in_nI hi hn) hd (fun H1 locs1 hP1 hD1 hS1 => ?_)
  rw [nI_clamp (by omega), hx] at hP1
  refine kk H1 locs1 ls (tw_ast0 (S' := tw_uA S r i y) C hP hwf hen hq0 hP1 (fun q hq e h => tw_en_ag (tw_ag_uA hq) h) ?_) hS1 hl
  simp only [tw_en, h0, h1]
  congr 4
  funext j
  by_cases hj : j = i <;> simp [tw_A, tw_uA, upd, hj]
theorem tw_last {r n i : Nat} {x : Int64} (C : tw_C G X cc own) (hd : decode cc pc = .ok (.lastore, 1)) (h0 : tw_sh r = none) (h1 : tw_ar r = some (2, n)) (hP : tw_P G r) (hi : i < n) (hn : n < 2 ^ 31) (kk : TW G X (tw_uB S r i x) L (pc + 1) st) : TW G X S L pc (.long x :: .int (nI i) :: .ref (tw_ad G r) :: st) := by
  intro H locs ls hW hS hl
  obtain ⟨hwf, f, hPf, hen⟩ := hW
  obtain ⟨q0, hq0⟩ := tw_at (f := f) C hP
  have hq1 := hq0
  rw [tw_en2 h0 h1 (hen r hP)] at hq1
  refine va_last (D := tw_D G) (tys := tw_tys G) C.1 C.2.1 C.E.1 (show va_P (tw_D G) vwCl (([] : va_W) ++ va_pl (tw_LA G) f) H from hPf) (C.E.2.1 f) hS q0 2 hq1 rfl (vp_in_nI hi hn) hd (fun H1 locs1 hP1 hD1 hS1 => ?_)
  rw [nI_clamp (by omega)] at hP1
  refine kk H1 locs1 ls (tw_ast0 (S' := tw_uB S r i x) C hP hwf hen hq0 hP1 (fun q hq e h => tw_en_ag (tw_ag_uB hq) h) ?_) hS1 hl
  simp only [tw_en, h0, h1]
  congr 5
  funext j
  by_cases hj : j = i <;> simp [tw_B, tw_uB, vp_updL, hj]
theorem tw_rast {r i b : Nat} (C : tw_C G X cc own) (hd : decode cc pc = .ok (.iastore, 1)) (hr : tw_isRow r = true) (hP : tw_P G r) (hP1 : tw_P G (r + 1)) (hi : i < (tw_R S r).length) (hb : b < 256) (kk : TW G X (tw_uR S r ((tw_R S r).set i b)) L (pc + 1) st) : TW G X S L pc (.int (nI b) :: .int (nI i) :: .ref (tw_ad G (r + 1)) :: st) := by
  intro H locs ls hW hS hl
  obtain ⟨hwf, f, hPf, hen⟩ := hW
  obtain ⟨q0, hq0⟩ := tw_at (f := f) C hP1
  have he := hen _ hP1
  simp only [tw_en, tw_row_a0 hr, tw_row_ar hr, Nat.add_sub_cancel] at he
  obtain ⟨g, he, hg⟩ := he
  have hq1 := hq0
  rw [he] at hq1
  have hc := tw_row_cap hr
  have hlc := (hwf r hP hr).1
  refine va_iast (D := tw_D G) (tys := tw_tys G) C.1 C.2.1 C.E.1 (show va_P (tw_D G) vwCl (([] : va_W) ++ va_pl (tw_LA G) f) H from hPf) (C.E.2.1 f) hS q0 0 hq1 rfl (vp_in_nI (by omega) (by omega)) hd (fun H1 locs1 hP2 hD1 hS1 => ?_)
  rw [nI_clamp (by omega)] at hP2
  have hRr : tw_R (tw_uR S r ((tw_R S r).set i b)) r = (tw_R S r).set i b := by simp [tw_R, tw_uR]
  refine kk H1 locs1 ls (tw_ast0 (S' := tw_uR S r ((tw_R S r).set i b)) C hP1 (tw_wf_uR hwf (by rw [List.length_set]; exact hlc) ?_) hen hq0 hP2 (fun q hq e h => ?_) ?_) hS1 hl
  · intro x hx
    rcases List.mem_or_eq_of_mem_set hx with h | h
    · exact (hwf r hP hr).2 x h
    · omega
  · by_cases hqr : q = r
    · subst hqr
      simp only [tw_en, tw_row_sh hr] at h ⊢
      rw [h]
      congr 2
      refine tw_fl_eq (fun j c hj => ?_)
      simp [tw_fv, tw_R, tw_uR, tw_I, tw_J]
    · exact tw_en_ag (tw_ag_uR hqr hq (tw_row_lt hr).1) h
  · simp only [tw_en, tw_row_a0 hr, tw_row_ar hr, Nat.add_sub_cancel, hRr]
    refine ⟨_, rfl, fun j x hx => ?_⟩
    by_cases hj : j = i
    · subst hj
      rw [List.getElem?_set_self hi] at hx
      cases hx
      simp [upd]
    · rw [List.getElem?_set_ne (Ne.symm hj)] at hx
      simp [upd, hj, hg j x hx]
/-- bytes[length] = b; length++ -/
theorem tw_radd {r b N i0 i1 p1 p2 p3 p4 p5 p6 pe : Nat} {T : u_T} {CN : String} {ty : Nat → FieldType} {lv : List (Nat × Value)} (C : tw_C G X cc own) (F : tw_F 5 CN T N ty) (hd : decode cc pc = .ok (.iastore, 1)) (e1 : pc + 1 = p1) (hd1 : decode cc p1 = .ok (.aload_n 0, 1)) (e2 : p1 + 1 = p2) (hd2 : decode cc p2 = .ok (.dup, 1)) (e3 : p2 + 1 = p3) (hd3 : decode cc p3 = .ok (.getfield i0, 3)) (e4 : p3 + 3 = p4) (hd4 : decode cc p4 = .ok (.iconst 1, 1)) (e5 : p4 + 1 = p5) (hd5 : decode cc p5 = .ok (.iadd, 1)) (e6 : p5 + 1 = p6) (hd6 : decode cc p6 = .ok (.putfield i1, 3)) (ee : p6 + 3 = pe) (hr : tw_isRow r = true) (hP : tw_P G r) (hP1 : tw_P G (r + 1)) (hkN : 1 < N) (hfin : (T 1).2.2.2 = false) (hw0 : Cond.fieldLink own i0 (T 1).1 (T 1).2.1 (T 1).2.2.1 ∈ lw_g) (hw1 : Cond.fieldLink own i1 (T 1).1 (T 1).2.1 (T 1).2.2.1 ∈ lw_g) (hty : ty 1 = .int) (j : Nat) (hj : L[j]? = some (0, .ref (tw_ad G r))) (hi : (tw_R S r).length < tw_cap r) (hb : b < 256) (kk : TW G X (tw_uR S r (tw_R S r ++ [b])) L pe st) : TW G X S L pc (.int (nI b) :: .int (nI (tw_R S r).length) :: .ref (tw_ad G (r + 1)) :: st) := by
  subst e1 e2 e3 e4 e5 e6 ee
  intro H locs ls hW hS hl
  obtain ⟨hwf, f, hPf, hen⟩ := hW
  obtain ⟨q0, hq0⟩ := tw_at (f := f) C hP1
  have he := hen _ hP1
  simp only [tw_en, tw_row_a0 hr, tw_row_ar hr, Nat.add_sub_cancel] at he
  obtain ⟨g, he, hg⟩ := he
  have hq1 := hq0
  rw [he] at hq1
  have hc := tw_row_cap hr
  have hlc := (hwf r hP hr).1
  have hDf : va_D (tx_A X) (([] : va_W) ++ va_pl (tw_LA G) f) := C.E.2.1 f
  refine va_iast (D := tw_D G) (tys := tw_tys G) C.1 C.2.1 C.E.1 (show va_P (tw_D G) vwCl (([] : va_W) ++ va_pl (tw_LA G) f) H from hPf) hDf hS q0 0 hq1 rfl (vp_in_nI (by omega) (by omega)) hd (fun H1 locs1 hP2 hD1 hS1 => ?_)
  rw [nI_clamp (by omega), va_pl_set hDf (C.E.2.2.1 _ hP1) hq0] at hP2
  have hne : tw_ad G r ≠ tw_ad G (r + 1) := fun z => by have := C.E.2.2.2 _ _ hP hP1 z; omega
  have hf1 : va_up f (tw_ad G (r + 1)) (.inl (tw_cy G 0, tw_cap r, .inl (upd g (tw_R S r).length (nI b)))) (tw_ad G r) = .inr (5, tw_fl (fun k c => tw_fv (tw_ad G) S r k c) 0 [r + 4, 2]) := by
    rw [va_up_ne _ _ hne]
    have h := hen _ hP
    simpa only [tw_en, tw_row_sh hr] using h
  generalize hf1e : va_up f (tw_ad G (r + 1)) (.inl (tw_cy G 0, tw_cap r, .inl (upd g (tw_R S r).length (nI b)))) = f1 at hP2 hf1
  obtain ⟨q2, hq2⟩ := tw_at (f := f1) C hP
  have hq3 := hq2
  rw [hf1] at hq3
  have hDf1 : va_D (tx_A X) (([] : va_W) ++ va_pl (tw_LA G) f1) := C.E.2.1 f1
  refine lv_aload_n C.1 C.2.1 hd1 rfl (lv_at hl j hj) ?_
  refine lv_dup C.1 C.2.1 hd2 rfl ?_
  refine va_get (D := tw_D G) (v := .int (nI (tw_R S r).length)) (C := CN) (T := T) (N := N) C.1 C.2.1 C.ts F.2.1 C.ow C.E.1 hP2 q2 hq3 F.1 1 hkN (C.ts _ hw0) (fun _ h => h) rfl hd3 ?_
  refine lv_iconst (v := 1) C.1 C.2.1 hd4 (by decide) ?_
  refine lv_iadd C.1 C.2.1 hd5 ?_
  refine va_put (D := tw_D G) (cl := vwCl) (ws := ([] : va_W) ++ va_pl (tw_LA G) f1) (A := tx_A X) (H0 := (tx_s X).heap) (ty := ty 1) (C := CN) (T := T) (N := N) C.1 C.2.1 C.ts F.2.1 ty F.2.2.1 F.2.2.2 C.ow C.E.1 hP2 hDf1 hS1 q2 hq3 F.1 1 hkN (C.ts _ hw1) (fun _ h => h) hfin (F.2.2.1 1 hkN) (by rw [hty]; rfl) (by rw [hty]; rfl) (by simp [tw_fl]) hd6 (fun H2 locs2 hP4 hD2 hS2 => ?_)
  rw [va_pl_set hDf1 (C.E.2.2.1 _ hP) hq2] at hP4
  have hRr : tw_R (tw_uR S r (tw_R S r ++ [b])) r = tw_R S r ++ [b] := by simp [tw_R, tw_uR]
  refine kk H2 locs2 ls ⟨tw_wf_uR hwf (by simp; omega) (fun x hx => ?_), _, hP4, fun q hq => ?_⟩ hS2 hl
  · rcases List.mem_append.mp hx with h | h
    · exact (hwf r hP hr).2 x h
    · simp at h; omega
  · by_cases hqr : q = r
    · subst hqr
      rw [va_up_self]
      simp only [tw_en, tw_row_sh hr]
      have hle : nI (tw_R S q).length + 1 = nI ((tw_R S q ++ [b]).length) := by rw [nI_1]; simp
      simp only [tw_fl, tw_fv, hRr, List.set, hle]
      simp
    · rw [va_up_ne _ _ (fun z => hqr (C.E.2.2.2 q r hq hP z))]
      by_cases hqa : q = r + 1
      · subst hqa
        rw [← hf1e, va_up_self]
        simp only [tw_en, tw_row_a0 hr, tw_row_ar hr, Nat.add_sub_cancel, hRr]
        refine ⟨_, rfl, fun i x hx => ?_⟩
        by_cases hil : i < (tw_R S r).length
        · rw [List.getElem?_append_left hil] at hx
          have : i ≠ (tw_R S r).length := by omega
          simp [upd, this, hg i x hx]
        · rw [List.getElem?_append_right (by omega)] at hx
          have hz : i - (tw_R S r).length < 1 := (List.getElem?_eq_some_iff.mp hx).1
          have hi0 : i = (tw_R S r).length := by omega
          subst hi0
          simp at hx
          simp [upd, hx]
      · rw [← hf1e, va_up_ne _ _ (fun z => hqa (C.E.2.2.2 q _ hq hP1 z))]
        exact tw_en_ag (tw_ag_uR hqr hqa (tw_row_lt hr).1) (hen q hq)
/-- the table of Mode -/
theorem tw_gets {idx : Nat} (C : tw_C G X cc own) (hd : decode cc pc = .ok (.getstatic idx, 3)) (hw : Cond.fieldLink own idx "ShortFrames$Mode" "BYTES" "[I" ∈ lw_g) (kk : TW G X S L (pc + 3) (.ref (tw_t0 G) :: st)) : TW G X S L pc st := fun H locs ls hW hS hl =>
  va_gets C.1 C.2.1 C.Z.1 hS C.ow (C.ts _ hw) (fun _ h => h) hd (kk H locs ls hW hS hl)
theorem tw_tlen (C : tw_C G X cc own) (hd : decode cc pc = .ok (.arraylength, 1)) (kk : TW G X S L (pc + 1) (.int (nI 12) :: st)) : TW G X S L pc (.ref (tw_t0 G) :: st) := by
  intro H locs ls hW hS hl
  obtain ⟨cell, h1, h2, h3, h4, h5, h6, h7⟩ := C.Z.2
  exact W.alen (n := nI 12) C.1 C.2.1 (by rw [hS.2.1 _ (Array.getElem?_eq_some_iff.mp h1).1 h7]; exact h1) h2 h5 rfl rfl hd (kk H locs ls hW hS hl)
theorem tw_tald {i : Nat} {v : Int32} (C : tw_C G X cc own) (hd : decode cc pc = .ok (.iaload, 1)) (hi : i < 12) (hv : tw_tab i = .int v) (kk : TW G X S L (pc + 1) (.int v :: st)) : TW G X S L pc (.int (nI i) :: .ref (tw_t0 G) :: st) := fun H locs ls hW hS hl =>
  va_ti C.1 C.2.1 C.Z.2 hS (vp_in_nI hi (by decide)) (by rw [nI_clamp (by omega)]; exact hv) hd (kk H locs ls hW hS hl)
/-! ends -/
theorem tw_ireturn {α : Type} {inj : α → Option Value} {post : α → tw_S → Prop} {ret : Option FieldType} {ty : FieldType} {v : α} {x : Int32} (C : tw_C G X cc own) (Q : tw_Q G X ret inj post) (hd : decode cc pc = .ok (.ireturn, 1)) (hret : ret = some ty) (hn : narrow ty (.int x) = .int x) (hv : inj v = some (.int x)) (hp : post v S) : TW G X S L pc [.int x] := by
  intro H locs ls hW hS hl
  obtain ⟨hr, hA, hQ⟩ := Q
  rw [hA] at hS
  unfold tx_W
  rw [hQ]
  exact W.zret C.1 C.2.1 (hr.trans hret) hn (fun t ht hW' => ⟨⟨v, S, by rw [hv], hp, by rw [ht]; exact hW⟩, hS.F ht⟩) hS.2.2 hd C.lk
theorem tw_lreturn {α : Type} {inj : α → Option Value} {post : α → tw_S → Prop} {ret : Option FieldType} {v : α} {x : Int64} (C : tw_C G X cc own) (Q : tw_Q G X ret inj post) (hd : decode cc pc = .ok (.lreturn, 1)) (hret : ret = some .long) (hv : inj v = some (.long x)) (hp : post v S) : TW G X S L pc [.long x] := by
  intro H locs ls hW hS hl
  obtain ⟨hr, hA, hQ⟩ := Q
  rw [hA] at hS
  unfold tx_W
  rw [hQ]
  exact W.lret C.1 C.2.1 (hr.trans hret) (fun t ht hW' => ⟨⟨v, S, by rw [hv], hp, by rw [ht]; exact hW⟩, hS.F ht⟩) hS.2.2 hd C.lk
theorem tw_areturn {α : Type} {inj : α → Option Value} {post : α → tw_S → Prop} {ret : Option FieldType} {cn : String} {v : α} {a : Nat} (C : tw_C G X cc own) (Q : tw_Q G X ret inj post) (hd : decode cc pc = .ok (.areturn, 1)) (hret : ret = some (.object cn)) (hv : inj v = some (.ref a)) (hp : post v S) : TW G X S L pc [.ref a] := by
  intro H locs ls hW hS hl
  obtain ⟨hr, hA, hQ⟩ := Q
  rw [hA] at hS
  unfold tx_W
  rw [hQ]
  exact W.aret C.1 C.2.1 (hr.trans hret) (Or.inl ⟨cn, rfl⟩) (Or.inr ⟨a, rfl⟩) (fun t ht hW' => ⟨⟨v, S, by rw [hv], hp, by rw [ht]; exact hW⟩, hS.F ht⟩) hS.2.2 hd C.lk
theorem tw_return {α : Type} {inj : α → Option Value} {post : α → tw_S → Prop} {ret : Option FieldType} {v : α} (C : tw_C G X cc own) (Q : tw_Q G X ret inj post) (hd : decode cc pc = .ok (.return_, 1)) (hret : ret = none) (hv : inj v = none) (hp : post v S) : TW G X S L pc [] := by
  intro H locs ls hW hS hl
  obtain ⟨hr, hA, hQ⟩ := Q
  rw [hA] at hS
  unfold tx_W
  rw [hQ]
  exact W.vret C.1 C.2.1 (hr.trans hret) (fun t ht hW' => ⟨⟨v, S, by rw [hv], hp, by rw [ht]; exact hW⟩, hS.F ht⟩) hS.2.2 hd C.lk
/-! beginnings -/
theorem tw_M.of {α : Type} {inj : α → Option Value} {post : α → tw_S → Prop} {ret : Option FieldType} {y : MethodName} {bytes : ByteArray} {maxL fr lo : Nat} {av : List Value} (hy : plainName y.cls = true) (hlen : (lg_sl av).length ≤ maxL) (hL : lv_args 0 av = L)
    (body : ∀ X : tw_X, tw_C G X bytes y.cls → tw_N X maxL fr lo → tw_Q G X ret inj post → TW G X S L 0 []) : tw_M G y bytes maxL ret fr lo av S inj post := by
  intro sz
  refine Met.ofW (cc := bytes) (maxL := maxL) (ret := ret) hy rfl ?_
  intro p e s m args below meth c s₁ B hml hv
  obtain ⟨rfl, hsz, hW, hE, hZ⟩ := hv
  subst hsz
  have hts := atoms_spec (ws := Cond.code y bytes maxL ret :: lw_g) B.pre
  have hown : s.vm.findClass y.cls = some m.cls := findClass_of_methodNamed B.named
  have hl := lv_entry av (n := maxL) hlen
  rw [hL] at hl
  rw [lg_entry_eq]
  exact body (p, e, _, s, m, av.toArray, below, meth, c, maxL, tw_AA G s.heap.size, 0, 0, _) ⟨B.exec, B.bytes, hml, hown, fun w hw => hts w (List.mem_cons_of_mem _ hw), hE, hZ, fun q h => Or.inr h, B.notSynchronized⟩ ⟨rfl, rfl, rfl, Nat.zero_le _, Nat.zero_le _⟩ ⟨B.returns, rfl, rfl⟩ s.heap [] _ hW va_S.rf hl
/-! calls -/
def tw_mV (y : MethodName) (bytes : ByteArray) (maxL : Nat) (ret : Option FieldType) (n : Nat) : Prop := Cond.instanceMethod y ∈ lw_g ∧ Cond.selects y.cls y y ∈ lw_g ∧ Cond.initialized y.cls ∈ lw_g ∧ Cond.code y bytes maxL ret ∈ lw_g ∧ (y.cls ≠ "java/lang/invoke/MethodHandle" ∧ y.cls ≠ "java/lang/invoke/VarHandle" ∧ (parseMethodDescriptor y.desc).map (fun d => d.parameters.length) = some n)
def tw_mS (y : MethodName) (bytes : ByteArray) (maxL : Nat) (ret : Option FieldType) (n : Nat) : Prop := Cond.static y ∈ lw_g ∧ Cond.initialized y.cls ∈ lw_g ∧ Cond.code y bytes maxL ret ∈ lw_g ∧ (y.cls ≠ "java/lang/invoke/MethodHandle" ∧ y.cls ≠ "java/lang/invoke/VarHandle" ∧ (parseMethodDescriptor y.desc).map (fun d => d.parameters.length) = some n)
theorem tw_AAs (C : tw_C G X cc own) {sz : Nat} (hsz : (tx_s X).heap.size ≤ sz) : ∀ q, tw_AA G sz q → tx_A X q := by
  intro q h
  rcases h with h | h
  · have hD := C.E.2.1 (fun _ => .inr (0, []))
    obtain ⟨k, hk⟩ := List.getElem?_of_mem (show ((q, Sum.inr (0, [])) : Nat × va_E) ∈ va_pl (tw_LA G) (fun _ => .inr (0, [])) from List.mem_map.mpr ⟨q, h, rfl⟩)
    exact hD.2 k _ hk
  · exact C.A q (Nat.le_trans hsz h)
theorem tw_pre {U : State} {H : Heap} {locs : List Loc} (C : tw_C G X cc own) (hW : tw_W G S H) (hS : va_S (tx_A X) (tx_s X).heap H locs) (hU : U.heap = H) (hWm : (tx_s X).vm.Alike U.vm) : U.heap.size = H.size ∧ tw_W G S U.heap ∧ tw_E G (tw_AA G H.size) U ∧ tw_Z G (tw_AA G H.size) U U.heap := by
  refine ⟨by rw [hU], by rw [hU]; exact hW, ⟨va_K.moved hWm C.E.1, fun f => (C.E.2.1 f).weaken (fun k q hk _ => ?_), C.E.2.2⟩, ?_⟩
  · obtain ⟨a, ha, rfl⟩ := List.mem_map.mp (List.mem_of_getElem? hk)
    exact Or.inl ha
  · have hkp : ∀ a : Nat, a < (tx_s X).heap.size → ¬ tx_A X a → H[a]? = (tx_s X).heap[a]? := hS.2.1
    rw [hU]
    exact ⟨((C.Z.1.kept hkp).narrow (tw_AAs C hS.1)).moved hWm, ((C.Z.2.kept hkp).narrow (tw_AAs C hS.1)).moved hWm⟩
theorem tw_blind {sz : Nat} {av : List Value} : FrameBlind (tw_Pc G sz av S) := by
  intro a U g mk h
  obtain ⟨q0, q1, q2, ⟨q3, q4⟩, q5, q6⟩ := h
  have hal : U.vm.Alike (U.calling g mk a).vm := Vm.Alike.refl U.vm
  exact ⟨q0, q1, q2, ⟨va_K.moved (u := U) (U := U.calling g mk a) hal q3, q4⟩, va_Z.moved (U := U.calling g mk a) hal q5, va_T.moved (U := U.calling g mk a) hal q6⟩
theorem tw_words (C : tw_C G X cc own) {y : MethodName} {bytes : ByteArray} {maxL : Nat} {ret : Option FieldType} (hc : Cond.code y bytes maxL ret ∈ lw_g) : ∀ w ∈ (Cond.code y bytes maxL ret :: lw_g), ∀ (a' : Array Value) (U : State), (tx_s X).WarmedH U.vm → w.before a' U = true := by
  refine pay_in (big := lw_g) C.ts (fun w hw => ?_)
  have hm : w ∈ lw_g := by
    rcases List.mem_cons.mp hw with h | h
    · rw [h]; exact hc
    · exact h
  exact ⟨hm, good_of_word (wd_good w hm)⟩
theorem tw_after {α : Type} {inj : α → Option Value} {post : α → tw_S → Prop} {H : Heap} {locs : List Loc} {ls : Array Slot} {a : Array Value} {rest : List Value} (C : tw_C G X cc own) (hS : va_S (tx_A X) (tx_s X).heap H locs) (hl : lv_has ls (tx_n X) L)
    (hr : va_Run (tx_p X) (tw_l G) (tx_e X) (tx_R X) (tx_s X) (tx_m X) (tx_a X) (tx_b X) (tx_t X) (tx_c X) H locs (tx_k X) (tx_z X) 0 0 (F0 (tx_m X) pc ls st) rest (tw_Qc G H.size inj post a) (tw_AA G H.size))
    (kk : ∀ (v : α) (S' : tw_S), post v S' → TW G X S' L (pc + 3) ((inj v).toList ++ rest)) : tx_W G X H locs pc ls st := by
  intro T hT Xs
  obtain ⟨v, st₀, t, T', L1, h0, X', hL1, e1, e2, ⟨⟨x, S', hv, hpo, hWt⟩, hz, hk⟩, stp⟩ := hr T hT Xs
  cases hv
  rw [h0] at hz hk
  obtain ⟨t2, a1, b1⟩ := kk x S' hpo T'.heap (locs ++ L1) ls (by rw [e1]; exact hWt)
    ⟨Nat.le_trans hS.1 (by rw [e1]; exact hz), fun q h1 h2 => by
      rw [e1, hk q (Nat.lt_of_lt_of_le h1 hS.1) (fun z => h2 (tw_AAs C hS.1 q z))]
      exact hS.2.1 q h1 h2, fun q hq => by
      rcases List.mem_append.mp hq with h | h
      · exact hS.2.2 q h
      · exact tw_AAs C hS.1 _ (hL1 q h)⟩ hl T' rfl X'
  exact ⟨t2, stp t2 a1, b1⟩
theorem tw_callV {α : Type} {inj : α → Option Value} {post : α → tw_S → Prop} {ret : Option FieldType} {y : MethodName} {bytes : ByteArray} {maxL fr lo nL fr0 lo0 idx n r ci N : Nat} {cs : List Nat} {T : u_T} {As rest : List Value} (C : tw_C G X cc own) (NN : tw_N X nL fr0 lo0) (hM : tw_M G y bytes maxL ret fr lo (.ref (tw_ad G r) :: As) S inj post) (hm : tw_mV y bytes maxL ret n) (hw : Cond.methodLink own idx y ∈ lw_g) (hAs : As.length = n) (hP : tw_P G r) (hsh : tw_sh r = some (ci, cs)) (hcl : vwCl[ci]? = some (y.cls, T, N)) (hR : fr + 1 ≤ fr0 ∧ 8 + (maxL + 11) + lo ≤ lo0) (hst : st = As.reverse ++ .ref (tw_ad G r) :: rest) (hrm : (rest.map fun v => v.category).sum ≤ 8) (hd : decode cc pc = .ok (.invokevirtual idx, 3))
    (kk : ∀ (v : α) (S' : tw_S), post v S' → TW G X S' L (pc + 3) ((inj v).toList ++ rest)) : TW G X S L pc st := by
  intro H locs ls hW hS hl
  have hW0 := hW
  obtain ⟨hwf, f, hPf, hen⟩ := hW
  have he := hen r hP
  simp only [tw_en, hsh] at he
  obtain ⟨q0, hq0⟩ := tw_at (f := f) C hP
  rw [he] at hq0
  have hcw : CallW (tx_R X) (tx_s X) (tx_a X) own y.cls idx y bytes maxL ret (Cond.code y bytes maxL ret :: lw_g) ({ frames := fr, cells := 0, slots := 0, locals := lo }) 0 0 n :=
    ⟨⟨rfl, rfl, by rw [NN.2.1]; exact hR.1, by rw [NN.2.2.1]; exact hR.2, tw_words C hm.2.2.2.1, List.mem_cons_self, C.ts _ hm.2.2.2.1, C.ts _ hm.2.2.1, ⟨hm.2.2.2.2.1, hm.2.2.2.2.2.1⟩, fun sig h => by
      have h2 := hm.2.2.2.2.2.2
      rw [h] at h2
      exact (Option.some.inj h2).symm, C.ts _ hw⟩, C.ts _ hm.1, C.ts _ hm.2.1⟩
  have hp : PreV (tx_s X) H y.cls (tw_ad G r) (tw_Pc G H.size (.ref (tw_ad G r) :: As) S) As := ⟨tw_blind, va_recv C.E.1 (show va_P (tw_D G) vwCl (([] : va_W) ++ va_pl (tw_LA G) f) H from hPf) hcl hq0, fun U hU hWm => ⟨rfl, tw_pre C hW0 hS hU hWm.alike⟩⟩
  exact tw_after C hS hl (va_runV (n := n) ⟨C.1, C.2.1, C.2.2.1, C.ow, C.ts⟩ (hM H.size) hcw hp rfl hAs hl.1 hst (lv_room hrm) hd ⟨NN.2.2.2.1, NN.2.2.2.2⟩) kk
theorem tw_callS {α : Type} {inj : α → Option Value} {post : α → tw_S → Prop} {ret : Option FieldType} {y : MethodName} {bytes : ByteArray} {maxL fr lo nL fr0 lo0 idx n : Nat} {As rest : List Value} (C : tw_C G X cc own) (NN : tw_N X nL fr0 lo0) (hM : tw_M G y bytes maxL ret fr lo As S inj post) (hm : tw_mS y bytes maxL ret n) (hw : Cond.methodLink own idx y ∈ lw_g) (hAs : As.length = n) (hR : fr + 1 ≤ fr0 ∧ 8 + (maxL + 11) + lo ≤ lo0) (hst : st = As.reverse ++ rest) (hrm : (rest.map fun v => v.category).sum ≤ 8) (hd : decode cc pc = .ok (.invokestatic idx, 3))
    (kk : ∀ (v : α) (S' : tw_S), post v S' → TW G X S' L (pc + 3) ((inj v).toList ++ rest)) : TW G X S L pc st := by
  intro H locs ls hW hS hl
  have hcw : CallB (tx_R X) (tx_s X) (tx_a X) own idx y bytes maxL ret (Cond.code y bytes maxL ret :: lw_g) ({ frames := fr, cells := 0, slots := 0, locals := lo }) 0 0 n ∧ (Cond.static y).before (tx_a X) (tx_s X) = true :=
    ⟨⟨rfl, rfl, by rw [NN.2.1]; exact hR.1, by rw [NN.2.2.1]; exact hR.2, tw_words C hm.2.2.1, List.mem_cons_self, C.ts _ hm.2.2.1, C.ts _ hm.2.1, ⟨hm.2.2.2.1, hm.2.2.2.2.1⟩, fun sig h => by
      have h2 := hm.2.2.2.2.2
      rw [h] at h2
      exact (Option.some.inj h2).symm, C.ts _ hw⟩, C.ts _ hm.1⟩
  have hp : PreS (tx_s X) H (tw_Pc G H.size As S) As := ⟨tw_blind, fun U hU hWm => ⟨rfl, tw_pre C hW hS hU hWm.alike⟩⟩
  exact tw_after C hS hl (va_runS (n := n) ⟨C.1, C.2.1, C.2.2.1, C.ow, C.ts⟩ (hM H.size) hcw hp rfl hAs hl.1 hst (lv_room hrm) hd ⟨NN.2.2.2.1, NN.2.2.2.2⟩) kk

end LY
end
section
/-! rows over natural numbers: nI n, lN n, and bI b for what is 0 or 1 -/
def bI (b : Bool) : Int32 := if b then 1 else 0
theorem bI_t : bI true = 1 := rfl
theorem bI_f : bI false = 0 := rfl
theorem bI_0 (b : Bool) : bI b = 0 ↔ b = false := by cases b <;> decide
theorem bI_n (b : Bool) : bI b = nI (if b then 1 else 0) := by cases b <;> rfl
theorem bI_nar (b : Bool) : narrow .boolean (.int (bI b)) = .int (bI b) := by cases b <;> rfl
theorem bI_fit (b : Bool) : fits .boolean (.int (bI b)) = true := by cases b <;> rfl
theorem bI_vp (b : Bool) : vp_nar .boolean (bI b) = bI b := by cases b <;> rfl
theorem nI_or (a b : Nat) : nI a ||| nI b = nI (a ||| b) := by
  apply Int32.toBitVec_inj.mp
  apply BitVec.eq_of_toNat_eq
  simp [nI, Int32.toBitVec_or, BitVec.toNat_or, Nat.or_mod_two_pow]
theorem nI_and (a b : Nat) : nI a &&& nI b = nI (a &&& b) := by
  apply Int32.toBitVec_inj.mp
  apply BitVec.eq_of_toNat_eq
  simp [nI, Int32.toBitVec_and, BitVec.toNat_and, Nat.and_mod_two_pow]
theorem nI_xor (a b : Nat) : nI a ^^^ nI b = nI (a ^^^ b) := by
  apply Int32.toBitVec_inj.mp
  apply BitVec.eq_of_toNat_eq
  simp [nI, Int32.toBitVec_xor, BitVec.toNat_xor, Nat.xor_mod_two_pow]
theorem nI_mod (a : Nat) : nI (a % 2 ^ 32) = nI a := by
  apply Int32.toBitVec_inj.mp
  apply BitVec.eq_of_toNat_eq
  simp [nI]
theorem lN_or (a b : Nat) : lN a ||| lN b = lN (a ||| b) := by
  apply Int64.toBitVec_inj.mp
  apply BitVec.eq_of_toNat_eq
  simp [lN, Int64.toBitVec_or, BitVec.toNat_or, Nat.or_mod_two_pow]
theorem lN_and (a b : Nat) : lN a &&& lN b = lN (a &&& b) := by
  apply Int64.toBitVec_inj.mp
  apply BitVec.eq_of_toNat_eq
  simp [lN, Int64.toBitVec_and, BitVec.toNat_and, Nat.and_mod_two_pow]
theorem lN_xor (a b : Nat) : lN a ^^^ lN b = lN (a ^^^ b) := by
  apply Int64.toBitVec_inj.mp
  apply BitVec.eq_of_toNat_eq
  simp [lN, Int64.toBitVec_xor, BitVec.toNat_xor, Nat.xor_mod_two_pow]
theorem lN_mod (a : Nat) : lN (a % 2 ^ 64) = lN a := by
  apply Int64.toBitVec_inj.mp
  apply BitVec.eq_of_toNat_eq
  simp [lN]
theorem lN_inj {a b : Nat} (ha : a < 2 ^ 64) (hb : b < 2 ^ 64) : lN a = lN b ↔ a = b := by
  constructor
  · intro h
    have h1 := congrArg (fun x : Int64 => x.toBitVec.toNat) h
    simp [lN] at h1
    omega
  · rintro rfl; rfl
theorem nI_inj {a b : Nat} (ha : a < 2 ^ 32) (hb : b < 2 ^ 32) : nI a = nI b ↔ a = b := by
  constructor
  · intro h
    have h1 := congrArg (fun x : Int32 => x.toBitVec.toNat) h
    simp [nI] at h1
    omega
  · rintro rfl; rfl
theorem nI_all (x : Int32) : ∃ n : Nat, n < 2 ^ 32 ∧ x = nI n := by
  refine ⟨x.toBitVec.toNat, x.toBitVec.isLt, ?_⟩
  apply Int32.toBitVec_inj.mp
  apply BitVec.eq_of_toNat_eq
  simp [nI]
theorem lN_all (x : Int64) : ∃ n : Nat, n < 2 ^ 64 ∧ x = lN n := by
  refine ⟨x.toBitVec.toNat, x.toBitVec.isLt, ?_⟩
  apply Int64.toBitVec_inj.mp
  apply BitVec.eq_of_toNat_eq
  simp [lN]
theorem nI_toNat (n : Nat) : (nI n).toBitVec.toNat = n % 2 ^ 32 := by simp [nI]
theorem lN_toNat (n : Nat) : (lN n).toBitVec.toNat = n % 2 ^ 64 := by simp [lN]
theorem nI_shl (a k : Nat) (hk : k < 32) : nI a <<< (nI k &&& 31) = nI (a * 2 ^ k) := by
  apply Int32.toBitVec_inj.mp
  apply BitVec.eq_of_toNat_eq
  have hs : ∀ k, k < 32 → ((nI k &&& 31).toBitVec.smod 32).toNat = k := by decide +kernel
  rw [pk_shl _ _ k (hs k hk), nI_toNat, nI_toNat, Nat.mod_mul_mod]
theorem nI_shr {a : Nat} (ha : a < 2 ^ 31) (k : Nat) (hk : k < 32) : nI a >>> (nI k &&& 31) = nI (a / 2 ^ k) := by
  have hs : ∀ k, k < 32 → ((nI k &&& 31).toBitVec.smod 32).toNat = k := by decide +kernel
  exact pk_shrN ha _ k (hs k hk)
theorem lN_c : ∀ k, k < 64 → ((nI k).toInt64 &&& 63).toBitVec.smod 64 = BitVec.ofNat 64 k := by decide +kernel
theorem lN_cu : ∀ k, k < 64 → ((nI k).toInt64.toUInt64 &&& Int64.toUInt64 63) = UInt64.ofNat k := by decide +kernel
theorem lN_shl (a k : Nat) (hk : k < 64) : lN a <<< ((nI k).toInt64 &&& 63) = lN (a * 2 ^ k) := by
  apply Int64.toBitVec_inj.mp
  apply BitVec.eq_of_toNat_eq
  rw [Int64.toBitVec_shiftLeft, lN_c k hk]
  simp only [BitVec.shiftLeft_eq', BitVec.toNat_ofNat, BitVec.toNat_shiftLeft, lN_toNat, Nat.shiftLeft_eq]
  rw [Nat.mod_eq_of_lt (show k < 2 ^ 64 by omega), Nat.mod_mul_mod]
theorem lN_ushr {a : Nat} (ha : a < 2 ^ 64) (k : Nat) (hk : k < 64) : ((lN a).toUInt64 >>> ((nI k).toInt64.toUInt64 &&& Int64.toUInt64 63)).toInt64 = lN (a / 2 ^ k) := by
  rw [lN_cu k hk]
  apply Int64.toBitVec_inj.mp
  apply BitVec.eq_of_toNat_eq
  have h1 : ((lN a).toUInt64 >>> UInt64.ofNat k).toInt64.toBitVec.toNat = ((lN a).toUInt64 >>> UInt64.ofNat k).toNat := rfl
  rw [h1, UInt64.toNat_shiftRight, lN_toNat]
  have h2 : (lN a).toUInt64.toNat = a := by
    show (lN a).toBitVec.toNat = a
    rw [lN_toNat, Nat.mod_eq_of_lt ha]
  have h3 : (UInt64.ofNat k).toNat = k := by
    rw [UInt64.toNat_ofNat_of_lt']
    exact Nat.lt_of_lt_of_le hk (by decide)
  rw [h2, h3, Nat.mod_eq_of_lt hk, Nat.shiftRight_eq_div_pow, Nat.mod_eq_of_lt]
  exact Nat.lt_of_le_of_lt (Nat.div_le_self _ _) ha
theorem lN_shr {a : Nat} (ha : a < 2 ^ 63) (k : Nat) (hk : k < 64) : lN a >>> ((nI k).toInt64 &&& 63) = lN (a / 2 ^ k) := by
  apply Int64.toBitVec_inj.mp
  rw [Int64.toBitVec_shiftRight, lN_c k hk]
  simp only [BitVec.sshiftRight_eq', BitVec.toNat_ofNat]
  rw [Nat.mod_eq_of_lt (show k < 2 ^ 64 by omega), BitVec.sshiftRight_eq_of_msb_false]
  · apply BitVec.eq_of_toNat_eq
    rw [BitVec.toNat_ushiftRight, lN_toNat, lN_toNat, Nat.shiftRight_eq_div_pow, Nat.mod_eq_of_lt (by omega), Nat.mod_eq_of_lt]
    exact Nat.lt_of_le_of_lt (Nat.div_le_self _ _) (by omega)
  · rw [BitVec.msb_eq_decide]
    rw [lN_toNat]
    simp
    omega
theorem nI_andm {n : Nat} (k : Nat) (hk : k ≤ 31) : nI n &&& nI (2 ^ k - 1) = nI (n % 2 ^ k) := by
  rw [nI_and, Nat.and_two_pow_sub_one_eq_mod]
theorem lN_andm {n : Nat} (k : Nat) : lN n &&& lN (2 ^ k - 1) = lN (n % 2 ^ k) := by
  rw [lN_and, Nat.and_two_pow_sub_one_eq_mod]
theorem lN_i32 (n : Nat) : (lN n).toInt32 = nI n := lN_i n
theorem nI_i64 {n : Nat} (h : n < 2 ^ 31) : (nI n).toInt64 = lN n := nI_l h
theorem nI_neg {n : Nat} (h : 2 ^ 31 ≤ n) (h2 : n < 2 ^ 32) : nI n < 0 := by
  rw [Int32.lt_iff_toInt_lt, Int32.toInt_zero]
  have : (nI n).toInt = (n : Int) - 2 ^ 32 := by
    show (nI n).toBitVec.toInt = _
    rw [BitVec.toInt_eq_toNat_cond, nI_toNat, Nat.mod_eq_of_lt h2]
    split
    · omega
    · omega
  rw [this]
  omega
theorem nI_negle {n m : Nat} (h : 2 ^ 31 ≤ n) (h2 : n < 2 ^ 32) (hm : m < 2 ^ 31) : nI n < nI m := by
  have h3 := nI_neg h h2
  rw [Int32.lt_iff_toInt_lt, Int32.toInt_zero] at h3
  rw [Int32.lt_iff_toInt_lt, nI_toInt hm]
  omega
theorem tw_n32 : (nI 0 : Int32) = 0 := rfl
section NR
variable {G : tw_G} {X : tw_X} {S : tw_S} {L L' : List (Nat × Value)} {pc : Nat} {st : List Value} {cc : ByteArray} {own : String}
theorem tn_icmp_eq {a b : Nat} {off : Int} {tgt : Nat} (C : tw_C G X cc own) (hd : decode cc pc = .ok (.if_icmp .eq off, 3)) (ht : (pc : Int) + off = (tgt : Int)) (ha : a < 2 ^ 31) (hb : b < 2 ^ 31) (kt : a = b → TW G X S L tgt st) (kf : ¬ a = b → TW G X S L (pc + 3) st) : TW G X S L pc (.int (nI b) :: .int (nI a) :: st) := tw_icmp_eq C hd ht (fun c => kt ((nI_eq ha hb).mp c)) (fun c => kf ((not_congr (nI_eq ha hb)).mp c))
theorem tn_icmp_ne {a b : Nat} {off : Int} {tgt : Nat} (C : tw_C G X cc own) (hd : decode cc pc = .ok (.if_icmp .ne off, 3)) (ht : (pc : Int) + off = (tgt : Int)) (ha : a < 2 ^ 31) (hb : b < 2 ^ 31) (kt : ¬ a = b → TW G X S L tgt st) (kf : a = b → TW G X S L (pc + 3) st) : TW G X S L pc (.int (nI b) :: .int (nI a) :: st) := tw_icmp_ne C hd ht (fun c => kt ((not_congr (nI_eq ha hb)).mp c)) (fun c => kf ((nI_eq ha hb).mp c))
theorem tn_icmp_lt {a b : Nat} {off : Int} {tgt : Nat} (C : tw_C G X cc own) (hd : decode cc pc = .ok (.if_icmp .lt off, 3)) (ht : (pc : Int) + off = (tgt : Int)) (ha : a < 2 ^ 31) (hb : b < 2 ^ 31) (kt : a < b → TW G X S L tgt st) (kf : ¬ a < b → TW G X S L (pc + 3) st) : TW G X S L pc (.int (nI b) :: .int (nI a) :: st) := tw_icmp_lt C hd ht (fun c => kt ((nI_ltI ha hb).mp c)) (fun c => kf ((not_congr (nI_ltI ha hb)).mp c))
theorem tn_icmp_ge {a b : Nat} {off : Int} {tgt : Nat} (C : tw_C G X cc own) (hd : decode cc pc = .ok (.if_icmp .ge off, 3)) (ht : (pc : Int) + off = (tgt : Int)) (ha : a < 2 ^ 31) (hb : b < 2 ^ 31) (kt : b ≤ a → TW G X S L tgt st) (kf : ¬ b ≤ a → TW G X S L (pc + 3) st) : TW G X S L pc (.int (nI b) :: .int (nI a) :: st) := tw_icmp_ge C hd ht (fun c => kt ((nI_leI hb ha).mp c)) (fun c => kf ((not_congr (nI_leI hb ha)).mp c))
theorem tn_icmp_gt {a b : Nat} {off : Int} {tgt : Nat} (C : tw_C G X cc own) (hd : decode cc pc = .ok (.if_icmp .gt off, 3)) (ht : (pc : Int) + off = (tgt : Int)) (ha : a < 2 ^ 31) (hb : b < 2 ^ 31) (kt : b < a → TW G X S L tgt st) (kf : ¬ b < a → TW G X S L (pc + 3) st) : TW G X S L pc (.int (nI b) :: .int (nI a) :: st) := tw_icmp_gt C hd ht (fun c => kt ((nI_ltI hb ha).mp c)) (fun c => kf ((not_congr (nI_ltI hb ha)).mp c))
theorem tn_icmp_le {a b : Nat} {off : Int} {tgt : Nat} (C : tw_C G X cc own) (hd : decode cc pc = .ok (.if_icmp .le off, 3)) (ht : (pc : Int) + off = (tgt : Int)) (ha : a < 2 ^ 31) (hb : b < 2 ^ 31) (kt : a ≤ b → TW G X S L tgt st) (kf : ¬ a ≤ b → TW G X S L (pc + 3) st) : TW G X S L pc (.int (nI b) :: .int (nI a) :: st) := tw_icmp_le C hd ht (fun c => kt ((nI_leI ha hb).mp c)) (fun c => kf ((not_congr (nI_leI ha hb)).mp c))
theorem tn_if_eq {a : Nat} {off : Int} {tgt : Nat} (C : tw_C G X cc own) (hd : decode cc pc = .ok (.ifCond .eq off, 3)) (ht : (pc : Int) + off = (tgt : Int)) (ha : a < 2 ^ 31) (kt : a = 0 → TW G X S L tgt st) (kf : ¬ a = 0 → TW G X S L (pc + 3) st) : TW G X S L pc (.int (nI a) :: st) := tw_if_eq C hd ht (fun c => kt ((nI_eq ha (by decide : 0 < 2 ^ 31)).mp c)) (fun c => kf (fun h => c (h ▸ rfl)))
theorem tn_if_ne {a : Nat} {off : Int} {tgt : Nat} (C : tw_C G X cc own) (hd : decode cc pc = .ok (.ifCond .ne off, 3)) (ht : (pc : Int) + off = (tgt : Int)) (ha : a < 2 ^ 31) (kt : ¬ a = 0 → TW G X S L tgt st) (kf : a = 0 → TW G X S L (pc + 3) st) : TW G X S L pc (.int (nI a) :: st) := tw_if_ne C hd ht (fun c => kt (fun h => c (h ▸ rfl))) (fun c => kf ((nI_eq ha (by decide : 0 < 2 ^ 31)).mp c))
theorem tn_if_lt {a : Nat} {off : Int} {tgt : Nat} (C : tw_C G X cc own) (hd : decode cc pc = .ok (.ifCond .lt off, 3)) (ht : (pc : Int) + off = (tgt : Int)) (ha : a < 2 ^ 31) (kt : False → TW G X S L tgt st) (kf : True → TW G X S L (pc + 3) st) : TW G X S L pc (.int (nI a) :: st) := tw_if_lt C hd ht (fun c => kt (nI_pos ha c)) (fun c => kf (trivial))
theorem tn_if_ge {a : Nat} {off : Int} {tgt : Nat} (C : tw_C G X cc own) (hd : decode cc pc = .ok (.ifCond .ge off, 3)) (ht : (pc : Int) + off = (tgt : Int)) (ha : a < 2 ^ 31) (kt : True → TW G X S L tgt st) (kf : False → TW G X S L (pc + 3) st) : TW G X S L pc (.int (nI a) :: st) := tw_if_ge C hd ht (fun c => kt (trivial)) (fun c => kf (c (nI_pos' ha)))
theorem tn_if_gt {a : Nat} {off : Int} {tgt : Nat} (C : tw_C G X cc own) (hd : decode cc pc = .ok (.ifCond .gt off, 3)) (ht : (pc : Int) + off = (tgt : Int)) (ha : a < 2 ^ 31) (kt : 0 < a → TW G X S L tgt st) (kf : a = 0 → TW G X S L (pc + 3) st) : TW G X S L pc (.int (nI a) :: st) := tw_if_gt C hd ht (fun c => kt (Nat.pos_of_ne_zero fun h => absurd c (h ▸ by decide))) (fun c => kf (Nat.le_zero.mp (Nat.not_lt.mp fun h => c ((nI_ltI (by decide : 0 < 2 ^ 31) ha).mpr h))))
theorem tn_if_le {a : Nat} {off : Int} {tgt : Nat} (C : tw_C G X cc own) (hd : decode cc pc = .ok (.ifCond .le off, 3)) (ht : (pc : Int) + off = (tgt : Int)) (ha : a < 2 ^ 31) (kt : a = 0 → TW G X S L tgt st) (kf : 0 < a → TW G X S L (pc + 3) st) : TW G X S L pc (.int (nI a) :: st) := tw_if_le C hd ht (fun c => kt (Nat.le_zero.mp (Nat.not_lt.mp fun h => nI_nle h ha c))) (fun c => kf (Nat.pos_of_ne_zero fun h => c (h ▸ by decide)))
theorem tb_if_eq {b : Bool} {off : Int} {tgt : Nat} (C : tw_C G X cc own) (hd : decode cc pc = .ok (.ifCond .eq off, 3)) (ht : (pc : Int) + off = (tgt : Int)) (kt : b = false → TW G X S L tgt st) (kf : b = true → TW G X S L (pc + 3) st) : TW G X S L pc (.int (bI b) :: st) := tw_if_eq C hd ht (fun c => kt ((bI_0 b).mp c)) (fun c => kf (by cases b with | true => rfl | false => exact absurd rfl c))
theorem tb_if_ne {b : Bool} {off : Int} {tgt : Nat} (C : tw_C G X cc own) (hd : decode cc pc = .ok (.ifCond .ne off, 3)) (ht : (pc : Int) + off = (tgt : Int)) (kt : b = true → TW G X S L tgt st) (kf : b = false → TW G X S L (pc + 3) st) : TW G X S L pc (.int (bI b) :: st) := tw_if_ne C hd ht (fun c => kt (by cases b with | true => rfl | false => exact absurd rfl c)) (fun c => kf ((bI_0 b).mp c))
theorem lg_cmp_0 (x y : Int64) : lg_cmp x y = 0 ↔ x = y := by
  unfold lg_cmp
  simp only [gt_iff_lt, Int64.lt_iff_toInt_lt, ← Int64.toInt_inj]
  repeat' split
  · constructor
    · intro h; cases h
    · intro h; omega
  · constructor
    · intro _; assumption
    · intro _; rfl
  · constructor
    · intro h; cases h
    · intro h; omega
theorem tl_if_eq {a b : Nat} {off : Int} {tgt : Nat} (C : tw_C G X cc own) (hd : decode cc pc = .ok (.ifCond .eq off, 3)) (ht : (pc : Int) + off = (tgt : Int)) (ha : a < 2 ^ 64) (hb : b < 2 ^ 64) (kt : a = b → TW G X S L tgt st) (kf : ¬ a = b → TW G X S L (pc + 3) st) : TW G X S L pc (.int (lg_cmp (lN a) (lN b)) :: st) := tw_if_eq C hd ht (fun c => kt ((lN_inj ha hb).mp ((lg_cmp_0 _ _).mp c))) (fun c => kf (fun h => c ((lg_cmp_0 _ _).mpr (h ▸ rfl))))
theorem tl_if_ne {a b : Nat} {off : Int} {tgt : Nat} (C : tw_C G X cc own) (hd : decode cc pc = .ok (.ifCond .ne off, 3)) (ht : (pc : Int) + off = (tgt : Int)) (ha : a < 2 ^ 64) (hb : b < 2 ^ 64) (kt : ¬ a = b → TW G X S L tgt st) (kf : a = b → TW G X S L (pc + 3) st) : TW G X S L pc (.int (lg_cmp (lN a) (lN b)) :: st) := tw_if_ne C hd ht (fun c => kt (fun h => c ((lg_cmp_0 _ _).mpr (h ▸ rfl)))) (fun c => kf ((lN_inj ha hb).mp ((lg_cmp_0 _ _).mp c)))
end NR
end
section
theorem fc_X0 : tw_F 0 RX0 TX0 3 tyX0 := ⟨rfl, inX0, tyX0_ok, nmX0⟩
theorem fc_X1 : tw_F 1 RX1 TX1 2 tyX1 := ⟨rfl, inX1, tyX1_ok, nmX1⟩
theorem fc_X2 : tw_F 2 RX2 TX2 8 tyX2 := ⟨rfl, inX2, tyX2_ok, nmX2⟩
theorem fc_X3 : tw_F 3 RX3 TX3 4 tyX3 := ⟨rfl, inX3, tyX3_ok, nmX3⟩
theorem fc_X6 : tw_F 4 RX6 TX6 7 tyX6 := ⟨rfl, inX6, tyX6_ok, nmX6⟩
theorem fc_X7 : tw_F 5 RX7 TX7 2 tyX7 := ⟨rfl, inX7, tyX7_ok, nmX7⟩
theorem fc_X8 : tw_F 6 RX8 TX8 1 tyX8 := ⟨rfl, inX8, tyX8_ok, nmX8⟩
theorem fc_X9 : tw_F 7 RX9 TX9 10 tyX9 := ⟨rfl, inX9, tyX9_ok, nmX9⟩
theorem fc_X10 : tw_F 8 RX10 TX10 9 tyX10 := ⟨rfl, inX10, tyX10_ok, nmX10⟩
theorem fc_X11 : tw_F 9 RX11 TX11 46 tyX11 := ⟨rfl, inX11, tyX11_ok, nmX11⟩
theorem mm_X11_link : tw_mV yX11_link cX11_link 7 (some .int) 3 := ⟨wd_131, wd_132, wd_6, wd_133, by decide, by decide, by decide +kernel⟩
theorem mm_X11_in : tw_mS yX11_in cX11_in 3 (some .boolean) 3 := ⟨wd_136, wd_6, wd_137, by decide, by decide, by decide +kernel⟩
theorem mm_X10_context : tw_mV yX10_context cX10_context 6 (some .int) 3 := ⟨wd_139, wd_140, wd_3, wd_141, by decide, by decide, by decide +kernel⟩
theorem mm_X3_isThere : tw_mV yX3_isThere cX3_isThere 2 (some .boolean) 1 := ⟨wd_143, wd_144, wd_16, wd_145, by decide, by decide, by decide +kernel⟩
theorem mm_X3_setContext : tw_mV yX3_setContext cX3_setContext 5 none 3 := ⟨wd_147, wd_148, wd_16, wd_149, by decide, by decide, by decide +kernel⟩
theorem mm_X11_context : tw_mV yX11_context cX11_context 7 (some .int) 3 := ⟨wd_151, wd_152, wd_6, wd_153, by decide, by decide, by decide +kernel⟩
theorem mm_X10_link : tw_mV yX10_link cX10_link 5 (some .int) 3 := ⟨wd_155, wd_156, wd_3, wd_157, by decide, by decide, by decide +kernel⟩
theorem mm_X3_setLink : tw_mV yX3_setLink cX3_setLink 7 none 3 := ⟨wd_159, wd_160, wd_16, wd_161, by decide, by decide, by decide +kernel⟩
theorem mm_X10_type : tw_mV yX10_type cX10_type 4 (some .int) 2 := ⟨wd_166, wd_167, wd_3, wd_168, by decide, by decide, by decide +kernel⟩
theorem mm_X7_takes : tw_mV yX7_takes cX7_takes 2 (some .boolean) 1 := ⟨wd_170, wd_171, wd_25, wd_172, by decide, by decide, by decide +kernel⟩
theorem mm_X7_addNumber : tw_mV yX7_addNumber cX7_addNumber 5 none 2 := ⟨wd_174, wd_175, wd_25, wd_176, by decide, by decide, by decide +kernel⟩
theorem mm_X7_add : tw_mV yX7_add cX7_add 2 none 1 := ⟨wd_178, wd_179, wd_25, wd_180, by decide, by decide, by decide +kernel⟩
theorem mm_X7_length : tw_mV yX7_length cX7_length 1 (some .int) 0 := ⟨wd_182, wd_183, wd_25, wd_184, by decide, by decide, by decide +kernel⟩
theorem mm_X11_type : tw_mV yX11_type cX11_type 5 (some .int) 2 := ⟨wd_186, wd_187, wd_6, wd_188, by decide, by decide, by decide +kernel⟩
theorem mm_X11_lay : tw_mV yX11_lay cX11_lay 2 none 1 := ⟨wd_191, wd_192, wd_6, wd_193, by decide, by decide, by decide +kernel⟩
theorem mm_X10_head : tw_mV yX10_head cX10_head 14 (some .int) 9 := ⟨wd_195, wd_196, wd_3, wd_197, by decide, by decide, by decide +kernel⟩
theorem mm_X10_isOutside : tw_mS yX10_isOutside cX10_isOutside 2 (some .boolean) 2 := ⟨wd_200, wd_3, wd_201, by decide, by decide, by decide +kernel⟩
theorem mm_X5_firstFour : tw_mS yX5_firstFour cX5_firstFour 2 (some .long) 2 := ⟨wd_203, wd_204, wd_205, by decide, by decide, by decide +kernel⟩
theorem mm_X11_head : tw_mV yX11_head cX11_head 14 (some .int) 9 := ⟨wd_209, wd_210, wd_6, wd_211, by decide, by decide, by decide +kernel⟩
theorem mm_X11_layLong : tw_mV yX11_layLong cX11_layLong 4 none 1 := ⟨wd_214, wd_215, wd_6, wd_216, by decide, by decide, by decide +kernel⟩
theorem mm_X10_cut : tw_mV yX10_cut cX10_cut 3 (some .int) 1 := ⟨wd_218, wd_219, wd_3, wd_220, by decide, by decide, by decide +kernel⟩
theorem mm_X7_shorten : tw_mV yX7_shorten cX7_shorten 2 none 1 := ⟨wd_222, wd_223, wd_25, wd_224, by decide, by decide, by decide +kernel⟩
theorem mm_X11_cut : tw_mV yX11_cut cX11_cut 3 (some .int) 1 := ⟨wd_226, wd_227, wd_6, wd_228, by decide, by decide, by decide +kernel⟩
theorem mm_X10_poke : tw_mV yX10_poke cX10_poke 3 (some .int) 2 := ⟨wd_230, wd_231, wd_3, wd_232, by decide, by decide, by decide +kernel⟩
theorem mm_X7_has : tw_mV yX7_has cX7_has 2 (some .boolean) 1 := ⟨wd_234, wd_235, wd_25, wd_236, by decide, by decide, by decide +kernel⟩
theorem mm_X7_flip : tw_mV yX7_flip cX7_flip 3 (some .int) 2 := ⟨wd_238, wd_239, wd_25, wd_240, by decide, by decide, by decide +kernel⟩
theorem mm_X7_at : tw_mV yX7_at cX7_at 2 (some .int) 1 := ⟨wd_242, wd_243, wd_25, wd_244, by decide, by decide, by decide +kernel⟩
theorem mm_X7_set : tw_mV yX7_set cX7_set 3 none 2 := ⟨wd_246, wd_247, wd_25, wd_248, by decide, by decide, by decide +kernel⟩
theorem mm_X11_poke : tw_mV yX11_poke cX11_poke 3 (some .int) 2 := ⟨wd_250, wd_251, wd_6, wd_252, by decide, by decide, by decide +kernel⟩
theorem mm_X10_take : tw_mV yX10_take cX10_take 1 (some .int) 0 := ⟨wd_254, wd_255, wd_3, wd_256, by decide, by decide, by decide +kernel⟩
theorem mm_X7_become : tw_mV yX7_become cX7_become 2 none 1 := ⟨wd_258, wd_259, wd_25, wd_260, by decide, by decide, by decide +kernel⟩
theorem mm_X7_addAll : tw_mV yX7_addAll cX7_addAll 5 none 3 := ⟨wd_263, wd_264, wd_25, wd_265, by decide, by decide, by decide +kernel⟩
theorem mm_X11_take : tw_mV yX11_take cX11_take 2 (some .int) 0 := ⟨wd_267, wd_268, wd_6, wd_269, by decide, by decide, by decide +kernel⟩
theorem mm_X10_out : tw_mV yX10_out cX10_out 2 (some .int) 1 := ⟨wd_272, wd_273, wd_3, wd_274, by decide, by decide, by decide +kernel⟩
theorem mm_X10_byteOrLength : tw_mS yX10_byteOrLength cX10_byteOrLength 2 (some .int) 2 := ⟨wd_276, wd_3, wd_277, by decide, by decide, by decide +kernel⟩
theorem mm_X11_out : tw_mV yX11_out cX11_out 2 (some .int) 1 := ⟨wd_280, wd_281, wd_6, wd_282, by decide, by decide, by decide +kernel⟩
theorem mm_X10_squeeze : tw_mV yX10_squeeze cX10_squeeze 1 (some .int) 0 := ⟨wd_284, wd_285, wd_3, wd_286, by decide, by decide, by decide +kernel⟩
theorem mm_X5_isPacket : tw_mS yX5_isPacket cX5_isPacket 2 (some .boolean) 1 := ⟨wd_288, wd_204, wd_289, by decide, by decide, by decide +kernel⟩
theorem mm_X7_number : tw_mV yX7_number cX7_number 6 (some .long) 2 := ⟨wd_293, wd_294, wd_25, wd_295, by decide, by decide, by decide +kernel⟩
theorem mm_X8_write : tw_mV yX8_write cX8_write 18 (some .int) 2 := ⟨wd_297, wd_298, wd_19, wd_299, by decide, by decide, by decide +kernel⟩
theorem mm_X5_hasPorts : tw_mS yX5_hasPorts cX5_hasPorts 2 (some .boolean) 1 := ⟨wd_301, wd_204, wd_302, by decide, by decide, by decide +kernel⟩
theorem mm_X8_trafficOf : tw_mS yX8_trafficOf cX8_trafficOf 2 (some .int) 1 := ⟨wd_304, wd_19, wd_305, by decide, by decide, by decide +kernel⟩
theorem mm_X5_t : tw_mS yX5_t cX5_t 1 (some .int) 1 := ⟨wd_307, wd_204, wd_308, by decide, by decide, by decide +kernel⟩
theorem mm_X5_l : tw_mS yX5_l cX5_l 1 (some .int) 1 := ⟨wd_311, wd_204, wd_312, by decide, by decide, by decide +kernel⟩
theorem mm_X8_hopsOf : tw_mS yX8_hopsOf cX8_hopsOf 1 (some .int) 1 := ⟨wd_316, wd_19, wd_317, by decide, by decide, by decide +kernel⟩
theorem mm_X4_ofSource : tw_mS yX4_ofSource cX4_ofSource 5 (some .int) 3 := ⟨wd_320, wd_321, wd_322, by decide, by decide, by decide +kernel⟩
theorem mm_X4_ofOne : tw_mS yX4_ofOne cX4_ofOne 6 (some .int) 4 := ⟨wd_324, wd_321, wd_325, by decide, by decide, by decide +kernel⟩
theorem mm_X4_ofLast : tw_mS yX4_ofLast cX4_ofLast 4 (some .int) 3 := ⟨wd_328, wd_321, wd_329, by decide, by decide, by decide +kernel⟩
theorem mm_X3_own : tw_mV yX3_own cX3_own 2 (some .long) 1 := ⟨wd_332, wd_333, wd_16, wd_334, by decide, by decide, by decide +kernel⟩
theorem mm_X3_least : tw_mV yX3_least cX3_least 4 (some .int) 1 := ⟨wd_336, wd_337, wd_16, wd_338, by decide, by decide, by decide +kernel⟩
theorem mm_X4_ofGoal : tw_mS yX4_ofGoal cX4_ofGoal 5 (some .int) 3 := ⟨wd_340, wd_321, wd_341, by decide, by decide, by decide +kernel⟩
theorem mm_X4_ofMany : tw_mS yX4_ofMany cX4_ofMany 4 (some .int) 2 := ⟨wd_344, wd_321, wd_345, by decide, by decide, by decide +kernel⟩
theorem mm_X8_contextOf : tw_mV yX8_contextOf cX8_contextOf 4 (some .int) 2 := ⟨wd_349, wd_350, wd_19, wd_351, by decide, by decide, by decide +kernel⟩
theorem mm_X4_usesContext : tw_mS yX4_usesContext cX4_usesContext 1 (some .boolean) 1 := ⟨wd_353, wd_321, wd_354, by decide, by decide, by decide +kernel⟩
theorem mm_X8_writeTraffic : tw_mS yX8_writeTraffic cX8_writeTraffic 6 none 3 := ⟨wd_359, wd_19, wd_360, by decide, by decide, by decide +kernel⟩
theorem mm_X8_writeAddress : tw_mS yX8_writeAddress cX8_writeAddress 7 none 4 := ⟨wd_363, wd_19, wd_364, by decide, by decide, by decide +kernel⟩
theorem mm_X4_bytesOf : tw_mS yX4_bytesOf cX4_bytesOf 1 (some .int) 1 := ⟨wd_366, wd_321, wd_367, by decide, by decide, by decide +kernel⟩
theorem mm_X8_writePorts : tw_mS yX8_writePorts cX8_writePorts 4 none 2 := ⟨wd_370, wd_19, wd_371, by decide, by decide, by decide +kernel⟩
theorem mm_X5_headOf : tw_mS yX5_headOf cX5_headOf 1 (some .int) 1 := ⟨wd_374, wd_204, wd_375, by decide, by decide, by decide +kernel⟩
theorem mm_X11_squeeze : tw_mV yX11_squeeze cX11_squeeze 1 (some .int) 0 := ⟨wd_379, wd_380, wd_6, wd_381, by decide, by decide, by decide +kernel⟩
theorem mm_X11_isPacket : tw_mV yX11_isPacket cX11_isPacket 1 (some .boolean) 0 := ⟨wd_383, wd_384, wd_6, wd_385, by decide, by decide, by decide +kernel⟩
theorem mm_X11_squeezeTape : tw_mV yX11_squeezeTape cX11_squeezeTape 10 none 0 := ⟨wd_387, wd_388, wd_6, wd_389, by decide, by decide, by decide +kernel⟩
theorem mm_X11_sorts : tw_mV yX11_sorts cX11_sorts 1 none 0 := ⟨wd_401, wd_402, wd_6, wd_403, by decide, by decide, by decide +kernel⟩
theorem mm_X11_isPlain : tw_mV yX11_isPlain cX11_isPlain 4 (some .boolean) 1 := ⟨wd_405, wd_406, wd_6, wd_407, by decide, by decide, by decide +kernel⟩
theorem mm_X11_lastsOf : tw_mV yX11_lastsOf cX11_lastsOf 5 (some .int) 2 := ⟨wd_409, wd_410, wd_6, wd_411, by decide, by decide, by decide +kernel⟩
theorem mm_X11_isZero : tw_mV yX11_isZero cX11_isZero 5 (some .boolean) 2 := ⟨wd_413, wd_414, wd_6, wd_415, by decide, by decide, by decide +kernel⟩
theorem mm_X11_contextOf : tw_mV yX11_contextOf cX11_contextOf 5 (some .int) 1 := ⟨wd_417, wd_418, wd_6, wd_419, by decide, by decide, by decide +kernel⟩
theorem mm_X11_groupOf : tw_mV yX11_groupOf cX11_groupOf 1 (some .int) 0 := ⟨wd_421, wd_422, wd_6, wd_423, by decide, by decide, by decide +kernel⟩
theorem mm_X11_add : tw_mV yX11_add cX11_add 2 none 1 := ⟨wd_425, wd_426, wd_6, wd_427, by decide, by decide, by decide +kernel⟩
theorem mm_X11_addLasts : tw_mV yX11_addLasts cX11_addLasts 4 none 2 := ⟨wd_429, wd_430, wd_6, wd_431, by decide, by decide, by decide +kernel⟩
theorem mm_X11_addAll : tw_mV yX11_addAll cX11_addAll 3 none 1 := ⟨wd_433, wd_434, wd_6, wd_435, by decide, by decide, by decide +kernel⟩
theorem mm_X11_addPorts : tw_mV yX11_addPorts cX11_addPorts 3 none 0 := ⟨wd_437, wd_438, wd_6, wd_439, by decide, by decide, by decide +kernel⟩
theorem mm_X11_rowToOut : tw_mV yX11_rowToOut cX11_rowToOut 2 none 0 := ⟨wd_441, wd_442, wd_6, wd_443, by decide, by decide, by decide +kernel⟩
theorem mm_X10_unfold : tw_mV yX10_unfold cX10_unfold 2 (some .int) 0 := ⟨wd_445, wd_446, wd_3, wd_447, by decide, by decide, by decide +kernel⟩
theorem mm_X9_read : tw_mV yX9_read cX9_read 5 (some .boolean) 3 := ⟨wd_449, wd_450, wd_22, wd_451, by decide, by decide, by decide +kernel⟩
theorem mm_X7_becomeZeros : tw_mV yX7_becomeZeros cX7_becomeZeros 3 none 1 := ⟨wd_459, wd_460, wd_25, wd_461, by decide, by decide, by decide +kernel⟩
theorem mm_X9_readsForm : tw_mV yX9_readsForm cX9_readsForm 2 (some .boolean) 1 := ⟨wd_463, wd_464, wd_22, wd_465, by decide, by decide, by decide +kernel⟩
theorem mm_X9_has : tw_mV yX9_has cX9_has 3 (some .boolean) 2 := ⟨wd_469, wd_470, wd_22, wd_471, by decide, by decide, by decide +kernel⟩
theorem mm_X9_fails : tw_mV yX9_fails cX9_fails 3 (some .boolean) 2 := ⟨wd_474, wd_475, wd_22, wd_476, by decide, by decide, by decide +kernel⟩
theorem mm_X9_next : tw_mV yX9_next cX9_next 3 (some .int) 1 := ⟨wd_479, wd_480, wd_22, wd_481, by decide, by decide, by decide +kernel⟩
theorem mm_X9_goal : tw_mV yX9_goal cX9_goal 1 (some .int) 0 := ⟨wd_483, wd_484, wd_22, wd_485, by decide, by decide, by decide +kernel⟩
theorem mm_X9_readsContexts : tw_mV yX9_readsContexts cX9_readsContexts 5 (some .boolean) 1 := ⟨wd_487, wd_488, wd_22, wd_489, by decide, by decide, by decide +kernel⟩
theorem mm_X9_source : tw_mV yX9_source cX9_source 1 (some .int) 0 := ⟨wd_491, wd_492, wd_22, wd_493, by decide, by decide, by decide +kernel⟩
theorem mm_X9_readsTraffic : tw_mV yX9_readsTraffic cX9_readsTraffic 9 (some .boolean) 1 := ⟨wd_497, wd_498, wd_22, wd_499, by decide, by decide, by decide +kernel⟩
theorem mm_X9_traffic : tw_mV yX9_traffic cX9_traffic 1 (some .int) 0 := ⟨wd_502, wd_503, wd_22, wd_504, by decide, by decide, by decide +kernel⟩
theorem mm_X7_setNumber : tw_mV yX7_setNumber cX7_setNumber 6 none 3 := ⟨wd_508, wd_509, wd_25, wd_510, by decide, by decide, by decide +kernel⟩
theorem mm_X9_readsKind : tw_mV yX9_readsKind cX9_readsKind 2 (some .boolean) 1 := ⟨wd_512, wd_513, wd_22, wd_514, by decide, by decide, by decide +kernel⟩
theorem mm_X9_ports : tw_mV yX9_ports cX9_ports 1 (some .boolean) 0 := ⟨wd_516, wd_517, wd_22, wd_518, by decide, by decide, by decide +kernel⟩
theorem mm_X9_readsHops : tw_mV yX9_readsHops cX9_readsHops 4 (some .boolean) 1 := ⟨wd_521, wd_522, wd_22, wd_523, by decide, by decide, by decide +kernel⟩
theorem mm_X9_readsAddress : tw_mV yX9_readsAddress cX9_readsAddress 7 (some .boolean) 3 := ⟨wd_525, wd_526, wd_22, wd_527, by decide, by decide, by decide +kernel⟩
theorem mm_X9_firstEight : tw_mV yX9_firstEight cX9_firstEight 3 (some .long) 2 := ⟨wd_532, wd_533, wd_22, wd_534, by decide, by decide, by decide +kernel⟩
theorem mm_X3_contextOf : tw_mV yX3_contextOf cX3_contextOf 2 (some .long) 1 := ⟨wd_537, wd_538, wd_16, wd_539, by decide, by decide, by decide +kernel⟩
theorem mm_X9_lastEight : tw_mV yX9_lastEight cX9_lastEight 5 (some .long) 3 := ⟨wd_542, wd_543, wd_22, wd_544, by decide, by decide, by decide +kernel⟩
theorem mm_X9_readsPorts : tw_mV yX9_readsPorts cX9_readsPorts 4 (some .boolean) 1 := ⟨wd_548, wd_549, wd_22, wd_550, by decide, by decide, by decide +kernel⟩
theorem mm_X9_portsOf : tw_mS yX9_portsOf cX9_portsOf 3 (some .long) 2 := ⟨wd_552, wd_22, wd_553, by decide, by decide, by decide +kernel⟩
theorem mm_X9_readsRest : tw_mV yX9_readsRest cX9_readsRest 4 (some .boolean) 2 := ⟨wd_562, wd_563, wd_22, wd_564, by decide, by decide, by decide +kernel⟩
theorem mm_X9_tell : tw_mV yX9_tell cX9_tell 3 none 1 := ⟨wd_567, wd_568, wd_22, wd_569, by decide, by decide, by decide +kernel⟩
theorem mm_X9_fault : tw_mV yX9_fault cX9_fault 1 (some .int) 0 := ⟨wd_571, wd_572, wd_22, wd_573, by decide, by decide, by decide +kernel⟩
theorem mm_X9_packet : tw_mV yX9_packet cX9_packet 1 (some (.object "ShortFrames$Row")) 0 := ⟨wd_575, wd_576, wd_22, wd_577, by decide, by decide, by decide +kernel⟩
theorem mm_X11_unfold : tw_mV yX11_unfold cX11_unfold 3 (some .int) 0 := ⟨wd_579, wd_580, wd_6, wd_581, by decide, by decide, by decide +kernel⟩
theorem mm_X11_unfolds : tw_mV yX11_unfolds cX11_unfolds 13 (some .boolean) 1 := ⟨wd_589, wd_590, wd_6, wd_591, by decide, by decide, by decide +kernel⟩
theorem mm_X11_next : tw_mV yX11_next cX11_next 2 (some .int) 0 := ⟨wd_594, wd_595, wd_6, wd_596, by decide, by decide, by decide +kernel⟩
theorem mm_X11_fails : tw_mV yX11_fails cX11_fails 3 (some .boolean) 2 := ⟨wd_598, wd_599, wd_6, wd_600, by decide, by decide, by decide +kernel⟩
theorem mm_X11_unfoldsFirst : tw_mV yX11_unfoldsFirst cX11_unfoldsFirst 9 (some .boolean) 1 := ⟨wd_602, wd_603, wd_6, wd_604, by decide, by decide, by decide +kernel⟩
theorem mm_X11_set : tw_mV yX11_set cX11_set 3 none 2 := ⟨wd_606, wd_607, wd_6, wd_608, by decide, by decide, by decide +kernel⟩
theorem mm_X11_unfoldSource : tw_mV yX11_unfoldSource cX11_unfoldSource 3 none 1 := ⟨wd_610, wd_611, wd_6, wd_612, by decide, by decide, by decide +kernel⟩
theorem mm_X11_fromContext : tw_mV yX11_fromContext cX11_fromContext 4 none 2 := ⟨wd_614, wd_615, wd_6, wd_616, by decide, by decide, by decide +kernel⟩
theorem mm_X11_plain : tw_mV yX11_plain cX11_plain 2 none 1 := ⟨wd_618, wd_619, wd_6, wd_620, by decide, by decide, by decide +kernel⟩
theorem mm_X11_lasts : tw_mV yX11_lasts cX11_lasts 5 none 3 := ⟨wd_622, wd_623, wd_6, wd_624, by decide, by decide, by decide +kernel⟩
theorem mm_X11_unfoldGoal : tw_mV yX11_unfoldGoal cX11_unfoldGoal 3 none 1 := ⟨wd_626, wd_627, wd_6, wd_628, by decide, by decide, by decide +kernel⟩
theorem mm_X11_unfoldPorts : tw_mV yX11_unfoldPorts cX11_unfoldPorts 3 none 1 := ⟨wd_630, wd_631, wd_6, wd_632, by decide, by decide, by decide +kernel⟩
theorem mm_X11_ends : tw_mV yX11_ends cX11_ends 9 (some .boolean) 5 := ⟨wd_634, wd_635, wd_6, wd_636, by decide, by decide, by decide +kernel⟩
theorem mm_X11_packetToOut : tw_mV yX11_packetToOut cX11_packetToOut 2 none 0 := ⟨wd_639, wd_640, wd_6, wd_641, by decide, by decide, by decide +kernel⟩
theorem mm_X10_told : tw_mV yX10_told cX10_told 2 (some .int) 1 := ⟨wd_643, wd_644, wd_3, wd_645, by decide, by decide, by decide +kernel⟩
theorem mm_X11_told : tw_mV yX11_told cX11_told 2 (some .int) 1 := ⟨wd_647, wd_648, wd_6, wd_649, by decide, by decide, by decide +kernel⟩
theorem mm_X10_slice : tw_mV yX10_slice cX10_slice 3 (some .int) 2 := ⟨wd_651, wd_652, wd_3, wd_653, by decide, by decide, by decide +kernel⟩
theorem mm_X0_divide : tw_mV yX0_divide cX0_divide 8 (some .int) 4 := ⟨wd_656, wd_657, wd_37, wd_658, by decide, by decide, by decide +kernel⟩
theorem mm_X1_clear : tw_mV yX1_clear cX1_clear 1 none 0 := ⟨wd_662, wd_663, wd_33, wd_664, by decide, by decide, by decide +kernel⟩
theorem mm_X1_store : tw_mV yX1_store cX1_store 3 (some .boolean) 2 := ⟨wd_666, wd_667, wd_33, wd_668, by decide, by decide, by decide +kernel⟩
theorem mm_X1_size : tw_mV yX1_size cX1_size 1 (some .int) 0 := ⟨wd_671, wd_672, wd_33, wd_673, by decide, by decide, by decide +kernel⟩
theorem mm_X0_begin : tw_mV yX0_begin cX0_begin 4 none 3 := ⟨wd_675, wd_676, wd_37, wd_677, by decide, by decide, by decide +kernel⟩
theorem mm_X0_divideRest : tw_mV yX0_divideRest cX0_divideRest 11 (some .int) 5 := ⟨wd_683, wd_684, wd_37, wd_685, by decide, by decide, by decide +kernel⟩
theorem mm_X11_slice : tw_mV yX11_slice cX11_slice 8 (some .int) 2 := ⟨wd_688, wd_689, wd_6, wd_690, by decide, by decide, by decide +kernel⟩
theorem mm_X11_addTo : tw_mV yX11_addTo cX11_addTo 3 none 2 := ⟨wd_694, wd_695, wd_6, wd_696, by decide, by decide, by decide +kernel⟩
theorem mm_X11_begin : tw_mV yX11_begin cX11_begin 5 none 4 := ⟨wd_698, wd_699, wd_6, wd_700, by decide, by decide, by decide +kernel⟩
theorem mm_X10_frame : tw_mV yX10_frame cX10_frame 3 (some .int) 2 := ⟨wd_702, wd_703, wd_3, wd_704, by decide, by decide, by decide +kernel⟩
theorem mm_X1_has : tw_mV yX1_has cX1_has 2 (some .boolean) 1 := ⟨wd_706, wd_707, wd_33, wd_708, by decide, by decide, by decide +kernel⟩
theorem mm_X1_at : tw_mV yX1_at cX1_at 2 (some (.object "ShortFrames$Row")) 1 := ⟨wd_710, wd_711, wd_33, wd_712, by decide, by decide, by decide +kernel⟩
theorem mm_X11_frame : tw_mV yX11_frame cX11_frame 3 (some .int) 2 := ⟨wd_714, wd_715, wd_6, wd_716, by decide, by decide, by decide +kernel⟩
theorem mm_X11_isFrame : tw_mV yX11_isFrame cX11_isFrame 2 (some .boolean) 1 := ⟨wd_718, wd_719, wd_6, wd_720, by decide, by decide, by decide +kernel⟩
theorem mm_X10_spoil : tw_mV yX10_spoil cX10_spoil 4 (some .int) 3 := ⟨wd_722, wd_723, wd_3, wd_724, by decide, by decide, by decide +kernel⟩
theorem mm_X11_spoil : tw_mV yX11_spoil cX11_spoil 4 (some .int) 3 := ⟨wd_726, wd_727, wd_6, wd_728, by decide, by decide, by decide +kernel⟩
theorem mm_X10_put : tw_mV yX10_put cX10_put 2 (some .int) 1 := ⟨wd_730, wd_731, wd_3, wd_732, by decide, by decide, by decide +kernel⟩
theorem mm_X11_put : tw_mV yX11_put cX11_put 3 (some .int) 1 := ⟨wd_736, wd_737, wd_6, wd_738, by decide, by decide, by decide +kernel⟩
theorem mm_X10_hear : tw_mV yX10_hear cX10_hear 2 (some .int) 1 := ⟨wd_740, wd_741, wd_3, wd_742, by decide, by decide, by decide +kernel⟩
theorem mm_X6_listen : tw_mV yX6_listen cX6_listen 5 (some .int) 2 := ⟨wd_744, wd_745, wd_41, wd_746, by decide, by decide, by decide +kernel⟩
theorem mm_X6_hearsAll : tw_mV yX6_hearsAll cX6_hearsAll 3 (some .int) 2 := ⟨wd_751, wd_752, wd_41, wd_753, by decide, by decide, by decide +kernel⟩
theorem mm_X6_hearsFirst : tw_mV yX6_hearsFirst cX6_hearsFirst 4 (some .int) 2 := ⟨wd_759, wd_760, wd_41, wd_761, by decide, by decide, by decide +kernel⟩
theorem mm_X6_zOf : tw_mS yX6_zOf cX6_zOf 1 (some .int) 1 := ⟨wd_763, wd_41, wd_764, by decide, by decide, by decide +kernel⟩
theorem mm_X6_hearsPart : tw_mV yX6_hearsPart cX6_hearsPart 11 (some .int) 5 := ⟨wd_767, wd_768, wd_41, wd_769, by decide, by decide, by decide +kernel⟩
theorem mm_X6_dropLateHeaps : tw_mV yX6_dropLateHeaps cX6_dropLateHeaps 2 none 0 := ⟨wd_773, wd_774, wd_41, wd_775, by decide, by decide, by decide +kernel⟩
theorem mm_X2_beganBy : tw_mV yX2_beganBy cX2_beganBy 2 (some .boolean) 1 := ⟨wd_778, wd_779, wd_99, wd_780, by decide, by decide, by decide +kernel⟩
theorem mm_X2_end : tw_mV yX2_end cX2_end 1 none 0 := ⟨wd_784, wd_785, wd_99, wd_786, by decide, by decide, by decide +kernel⟩
theorem mm_X6_indexFor : tw_mV yX6_indexFor cX6_indexFor 5 (some .int) 2 := ⟨wd_788, wd_789, wd_41, wd_790, by decide, by decide, by decide +kernel⟩
theorem mm_X2_isOf : tw_mV yX2_isOf cX2_isOf 3 (some .boolean) 2 := ⟨wd_792, wd_793, wd_99, wd_794, by decide, by decide, by decide +kernel⟩
theorem mm_X2_isThere : tw_mV yX2_isThere cX2_isThere 1 (some .boolean) 0 := ⟨wd_798, wd_799, wd_99, wd_800, by decide, by decide, by decide +kernel⟩
theorem mm_X2_begin : tw_mV yX2_begin cX2_begin 5 none 3 := ⟨wd_802, wd_803, wd_99, wd_804, by decide, by decide, by decide +kernel⟩
theorem mm_X2_hasJust : tw_mV yX2_hasJust cX2_hasJust 4 (some .boolean) 2 := ⟨wd_809, wd_810, wd_99, wd_811, by decide, by decide, by decide +kernel⟩
theorem mm_X2_meets : tw_mV yX2_meets cX2_meets 5 (some .boolean) 2 := ⟨wd_813, wd_814, wd_99, wd_815, by decide, by decide, by decide +kernel⟩
theorem mm_X2_keep : tw_mV yX2_keep cX2_keep 7 none 3 := ⟨wd_817, wd_818, wd_99, wd_819, by decide, by decide, by decide +kernel⟩
theorem mm_X2_isWhole : tw_mV yX2_isWhole cX2_isWhole 1 (some .boolean) 0 := ⟨wd_824, wd_825, wd_99, wd_826, by decide, by decide, by decide +kernel⟩
theorem mm_X2_content : tw_mV yX2_content cX2_content 1 (some (.object "ShortFrames$Row")) 0 := ⟨wd_828, wd_829, wd_99, wd_830, by decide, by decide, by decide +kernel⟩
theorem mm_X11_hear : tw_mV yX11_hear cX11_hear 8 (some .int) 1 := ⟨wd_832, wd_833, wd_6, wd_834, by decide, by decide, by decide +kernel⟩
theorem mm_X11_reads : tw_mV yX11_reads cX11_reads 4 none 2 := ⟨wd_837, wd_838, wd_6, wd_839, by decide, by decide, by decide +kernel⟩
theorem mm_X11_drops : tw_mV yX11_drops cX11_drops 1 (some .int) 0 := ⟨wd_841, wd_842, wd_6, wd_843, by decide, by decide, by decide +kernel⟩
theorem mm_X11_hears : tw_mV yX11_hears cX11_hears 9 (some .int) 3 := ⟨wd_846, wd_847, wd_6, wd_848, by decide, by decide, by decide +kernel⟩
theorem mm_X11_goes : tw_mV yX11_goes cX11_goes 4 none 1 := ⟨wd_854, wd_855, wd_6, wd_856, by decide, by decide, by decide +kernel⟩
theorem mm_X10_pass : tw_mV yX10_pass cX10_pass 2 (some .int) 1 := ⟨wd_858, wd_859, wd_3, wd_860, by decide, by decide, by decide +kernel⟩
theorem mm_X6_goOn : tw_mV yX6_goOn cX6_goOn 2 (some .int) 1 := ⟨wd_862, wd_863, wd_41, wd_864, by decide, by decide, by decide +kernel⟩
theorem mm_X11_pass : tw_mV yX11_pass cX11_pass 2 (some .int) 1 := ⟨wd_866, wd_867, wd_6, wd_868, by decide, by decide, by decide +kernel⟩
theorem mm_X10_count : tw_mV yX10_count cX10_count 2 (some .int) 1 := ⟨wd_870, wd_871, wd_3, wd_872, by decide, by decide, by decide +kernel⟩
theorem mm_X6_heaps : tw_mV yX6_heaps cX6_heaps 3 (some .int) 0 := ⟨wd_874, wd_875, wd_41, wd_876, by decide, by decide, by decide +kernel⟩
theorem mm_X6_parts : tw_mV yX6_parts cX6_parts 3 (some .int) 0 := ⟨wd_878, wd_879, wd_41, wd_880, by decide, by decide, by decide +kernel⟩
theorem mm_X2_parts : tw_mV yX2_parts cX2_parts 1 (some .int) 0 := ⟨wd_882, wd_883, wd_99, wd_884, by decide, by decide, by decide +kernel⟩
theorem mm_X6_bytes : tw_mV yX6_bytes cX6_bytes 3 (some .int) 0 := ⟨wd_886, wd_887, wd_41, wd_888, by decide, by decide, by decide +kernel⟩
theorem mm_X2_bytes : tw_mV yX2_bytes cX2_bytes 1 (some .int) 0 := ⟨wd_890, wd_891, wd_99, wd_892, by decide, by decide, by decide +kernel⟩
theorem mm_X11_count : tw_mV yX11_count cX11_count 5 (some .int) 1 := ⟨wd_894, wd_895, wd_6, wd_896, by decide, by decide, by decide +kernel⟩
theorem sh_0 : tw_sh 0 = some (8, [4, 6, 8, 11, 12, 15, 17, 22, 24]) := by decide +kernel
theorem sh_1 : tw_sh 1 = some (5, [5, 2]) := by decide +kernel
theorem sh_3 : tw_sh 3 = some (5, [7, 2]) := by decide +kernel
theorem sh_5 : tw_sh 5 = some (3, [9, 10, 1, 1]) := by decide +kernel
theorem sh_8 : tw_sh 8 = some (6, [8]) := by decide +kernel
theorem sh_9 : tw_sh 9 = some (7, [8, 13, 0, 0, 0, 0, 0, 0, 0, 0]) := by decide +kernel
theorem sh_10 : tw_sh 10 = some (5, [14, 2]) := by decide +kernel
theorem sh_12 : tw_sh 12 = some (1, [16, 0]) := by decide +kernel
theorem sh_14 : tw_sh 14 = some (0, [11, 18, 20]) := by decide +kernel
theorem sh_15 : tw_sh 15 = some (5, [19, 2]) := by decide +kernel
theorem sh_17 : tw_sh 17 = some (5, [21, 2]) := by decide +kernel
theorem sh_19 : tw_sh 19 = some (4, [12, 23, 0, 0, 0, 0, 0]) := by decide +kernel
theorem sh_114 : tw_sh 114 = some (9, [118, 119, 120, 121, 0, 122, 0, 123, 0, 0, 0, 0, 0, 0, 0, 0, 0, 0, 124, 0, 0, 0, 0, 125, 0, 126, 0, 0, 0, 127, 128, 129, 0, 0, 0, 130, 131, 132, 133, 134, 135, 136, 0, 0, 0, 0]) := by decide +kernel
theorem sn_6 : tw_sh 6 = none := by decide +kernel
theorem sa_6 : tw_ar 6 = some (1, 16) := by decide +kernel
theorem sn_7 : tw_sh 7 = none := by decide +kernel
theorem sa_7 : tw_ar 7 = some (2, 16) := by decide +kernel
theorem sn_13 : tw_sh 13 = none := by decide +kernel
theorem sa_13 : tw_ar 13 = some (4, 40) := by decide +kernel
theorem sn_20 : tw_sh 20 = none := by decide +kernel
theorem sa_20 : tw_ar 20 = some (5, 3) := by decide +kernel
theorem sn_21 : tw_sh 21 = none := by decide +kernel
theorem sa_21 : tw_ar 21 = some (0, 8) := by decide +kernel
theorem sn_115 : tw_sh 115 = none := by decide +kernel
theorem sa_115 : tw_ar 115 = some (1, 16) := by decide +kernel
theorem sn_116 : tw_sh 116 = none := by decide +kernel
theorem sa_116 : tw_ar 116 = some (0, 128) := by decide +kernel
theorem sn_117 : tw_sh 117 = none := by decide +kernel
theorem sa_117 : tw_ar 117 = some (0, 16) := by decide +kernel
theorem sn_118 : tw_sh 118 = none := by decide +kernel
theorem sa_118 : tw_ar 118 = some (0, 640) := by decide +kernel
theorem sn_119 : tw_sh 119 = none := by decide +kernel
theorem sa_119 : tw_ar 119 = some (0, 800) := by decide +kernel
theorem sn_120 : tw_sh 120 = none := by decide +kernel
theorem sa_120 : tw_ar 120 = some (0, 800) := by decide +kernel
theorem sn_121 : tw_sh 121 = none := by decide +kernel
theorem sa_121 : tw_ar 121 = some (0, 640) := by decide +kernel
theorem sn_122 : tw_sh 122 = none := by decide +kernel
theorem sa_122 : tw_ar 122 = some (0, 800) := by decide +kernel
theorem sn_123 : tw_sh 123 = none := by decide +kernel
theorem sa_123 : tw_ar 123 = some (0, 8) := by decide +kernel
theorem sn_124 : tw_sh 124 = none := by decide +kernel
theorem sa_124 : tw_ar 124 = some (0, 8) := by decide +kernel
theorem sn_125 : tw_sh 125 = none := by decide +kernel
theorem sa_125 : tw_ar 125 = some (0, 4800) := by decide +kernel
theorem sn_126 : tw_sh 126 = none := by decide +kernel
theorem sa_126 : tw_ar 126 = some (0, 40) := by decide +kernel
theorem sn_127 : tw_sh 127 = none := by decide +kernel
theorem sa_127 : tw_ar 127 = some (0, 3) := by decide +kernel
theorem sn_128 : tw_sh 128 = none := by decide +kernel
theorem sa_128 : tw_ar 128 = some (0, 3) := by decide +kernel
theorem sn_129 : tw_sh 129 = none := by decide +kernel
theorem sa_129 : tw_ar 129 = some (0, 3) := by decide +kernel
theorem sn_130 : tw_sh 130 = none := by decide +kernel
theorem sa_130 : tw_ar 130 = some (0, 1800) := by decide +kernel
theorem sn_131 : tw_sh 131 = none := by decide +kernel
theorem sa_131 : tw_ar 131 = some (0, 3) := by decide +kernel
theorem sn_132 : tw_sh 132 = none := by decide +kernel
theorem sa_132 : tw_ar 132 = some (0, 300) := by decide +kernel
theorem sn_133 : tw_sh 133 = none := by decide +kernel
theorem sa_133 : tw_ar 133 = some (0, 300) := by decide +kernel
theorem tw_row1 : tw_isRow 1 = true := rfl
theorem tw_row3 : tw_isRow 3 = true := rfl
theorem tw_row10 : tw_isRow 10 = true := rfl
theorem tw_row15 : tw_isRow 15 = true := rfl
theorem tw_row17 : tw_isRow 17 = true := rfl
theorem tw_rowF0 : ∀ k, k < 40 → tw_isRow (34 + 2 * k) = true ∧ tw_cap (34 + 2 * k) = 120 := by decide +kernel
theorem tw_rowF {k : Nat} (h : k < 40) : tw_isRow (34 + 2 * k) = true := (tw_rowF0 k h).1
theorem tw_capF {k : Nat} (h : k < 40) : tw_cap (34 + 2 * k) = 120 := (tw_rowF0 k h).2
theorem tw_rowH0 : ∀ i, i < 3 → tw_isRow (22 + 4 * i + 1) = true ∧ tw_cap (22 + 4 * i + 1) = 600 ∧ tw_sh (22 + 4 * i) = some (2, [22 + 4 * i + 4, 22 + 4 * i + 6, 0, 0, 0, 0, 0, 0]) ∧ tw_sh (22 + 4 * i + 3) = none ∧ tw_ar (22 + 4 * i + 3) = some (0, 75) := by decide +kernel
theorem tw_row_lt1 {r : Nat} (h : tw_isRow r = true) : r + 1 < 114 := by
  have h0 : ∀ r, r < 114 → tw_isRow r = true → r + 1 < 114 := by decide +kernel
  exact h0 r (tw_row_lt h).2 h
abbrev tw_cG (G : tw_G) : Prop := ∀ r, r < 114 → tw_P G r
abbrev tw_mG (G : tw_G) : Prop := ∀ r, 114 ≤ r → r < 134 → tw_P G r
def ri_A (G : tw_G) : Nat → Option Value := fun r => some (.ref (tw_ad G r))
end
section
/-! bytes, numbers and rows, as lists -/
theorem tn_inc1 (a : Nat) : nI a + Int32.ofInt 1 = nI (a + 1) := nI_1 a
theorem tn_inc14 (a : Nat) : nI a + Int32.ofInt 14 = nI (a + 14) := nI_add a 14
theorem bI_of_t {p : Prop} [Decidable p] (h : p) : nI 1 = bI (decide p) := by simp [h, bI]; rfl
theorem bI_of_f {p : Prop} [Decidable p] (h : ¬ p) : nI 0 = bI (decide p) := by simp [h, bI]; rfl
theorem tw_uR_self (S : tw_S) (r : Nat) : tw_uR S r (tw_R S r) = S := by
  have : (fun q => if q = r then tw_R S r else S.1 q) = S.1 := by
    funext q
    by_cases h : q = r
    · subst h; simp [tw_R]
    · simp [h]
  simp only [tw_uR, this]
theorem tw_uR_uR (S : tw_S) (r : Nat) (xs ys : List Nat) : tw_uR (tw_uR S r xs) r ys = tw_uR S r ys := by
  simp only [tw_uR, Prod.mk.injEq, and_true]
  funext q
  by_cases h : q = r <;> simp [h]
theorem tq_uR_same (S : tw_S) (r : Nat) (xs : List Nat) : tw_R (tw_uR S r xs) r = xs := by simp [tw_R, tw_uR]
theorem tq_uR_ne (S : tw_S) {r q : Nat} (xs : List Nat) (h : q ≠ r) : tw_R (tw_uR S r xs) q = tw_R S q := by simp [tw_R, tw_uR, h]
theorem tk_tk {α : Type} (c : Nat) (l m : List α) : (l.take c ++ m).take c = (l ++ m).take c := by
  by_cases h : c ≤ l.length
  · rw [List.take_append_of_le_length (by simp; omega), List.take_append_of_le_length h, List.take_take, Nat.min_self]
  · rw [List.take_of_length_le (l := l) (by omega)]
theorem getD_some {α : Type} {l : List α} {i : Nat} (h : i < l.length) (d : α) : l[i]? = some (l.getD i d) := by
  rw [List.getD_eq_getElem?_getD, List.getElem?_eq_getElem h]; rfl
theorem getD_out {α : Type} {l : List α} {i : Nat} (h : ¬ i < l.length) (d : α) : l.getD i d = d := by
  rw [List.getD_eq_getElem?_getD, List.getElem?_eq_none (by omega)]; rfl
theorem getD_in {l : List Nat} (hb : ∀ x ∈ l, x < 256) (i : Nat) : l.getD i 0 < 256 := by
  by_cases h : i < l.length
  · exact hb _ (List.mem_of_getElem? (getD_some h 0))
  · rw [getD_out h]; decide
theorem set_out {α : Type} {l : List α} {i : Nat} {x : α} (h : ¬ i < l.length) : l.set i x = l := List.set_eq_of_length_le (by omega)
/-- k bytes of a row from a place on, as one number -/
def nb (xs : List Nat) (f : Nat) : Nat → Nat
  | 0 => 0
  | k + 1 => nb xs f k * 256 + xs.getD (f + k) 0
theorem nb_lt {xs : List Nat} (hb : ∀ x ∈ xs, x < 256) (f : Nat) : ∀ k, nb xs f k < 256 ^ k
  | 0 => by simp [nb]
  | k + 1 => by
    have h1 := nb_lt hb f k
    have h2 := getD_in hb (f + k)
    simp only [nb, Nat.pow_succ]
    omega
theorem p256 {k n : Nat} (h : k ≤ n) : 256 ^ k ≤ 256 ^ n := Nat.pow_le_pow_right (by decide) h
theorem or256 {a x : Nat} (h : x < 256) : a * 256 ||| x = a * 256 + x := by
  have := Nat.two_pow_add_eq_or_of_lt (i := 8) (b := x) h a
  simp only [Nat.reducePow] at this
  rw [Nat.mul_comm a 256, this]
/-- a number as n bytes -/
def be (v n : Nat) : List Nat := (List.range n).map (fun i => v / 2 ^ (8 * (n - 1 - i)) % 256)
theorem be_len (v n : Nat) : (be v n).length = n := by simp [be]
theorem be_lt {v n x : Nat} (h : x ∈ be v n) : x < 256 := by
  simp only [be, List.mem_map] at h
  obtain ⟨i, -, rfl⟩ := h
  exact Nat.mod_lt _ (by decide)
theorem be_take {v n i : Nat} (h : i < n) : (be v n).take (i + 1) = (be v n).take i ++ [v / 2 ^ (8 * (n - 1 - i)) % 256] := by
  rw [List.take_succ, be, List.getElem?_map, List.getElem?_range h]; rfl
/-- bytes over bytes, from a place on -/
def setN (xs : List Nat) (f : Nat) : List Nat → List Nat
  | [] => xs
  | b :: bs => setN (xs.set f b) (f + 1) bs
theorem setN_len : ∀ (bs xs : List Nat) (f : Nat), (setN xs f bs).length = xs.length
  | [], xs, f => rfl
  | b :: bs, xs, f => by simp [setN, setN_len bs]
theorem setN_snoc : ∀ (bs xs : List Nat) (f b : Nat), setN xs f (bs ++ [b]) = (setN xs f bs).set (f + bs.length) b
  | [], xs, f, b => by simp [setN]
  | c :: bs, xs, f, b => by
    simp only [List.cons_append, setN]
    rw [setN_snoc bs (xs.set f c) (f + 1) b]
    simp only [List.length_cons]
    rw [show f + 1 + bs.length = f + (bs.length + 1) by omega]
/-- a part of a row, 0 behind its end -/
def cutD (xs : List Nat) (a n : Nat) : List Nat := (List.range n).map (fun i => xs.getD (a + i) 0)
theorem cutD_len (xs : List Nat) (a n : Nat) : (cutD xs a n).length = n := by simp [cutD]
theorem cutD_succ (xs : List Nat) (a n : Nat) : cutD xs a (n + 1) = cutD xs a n ++ [xs.getD (a + n) 0] := by simp [cutD, List.range_succ]
theorem cutD_all (xs : List Nat) : cutD xs 0 xs.length = xs := by
  apply List.ext_getElem?
  intro i
  simp only [cutD, List.getElem?_map, Nat.zero_add]
  by_cases h : i < xs.length
  · rw [List.getElem?_range h, getD_some h 0]; rfl
  · rw [List.getElem?_eq_none (by simp; omega), List.getElem?_eq_none (by omega)]; rfl
theorem rep_succ (n : Nat) : List.replicate (n + 1) 0 = List.replicate n 0 ++ [0] := by
  rw [List.replicate_succ']
theorem m256 (v k : Nat) : v % 2 ^ 32 % 256 = v % 256 := by omega
end
section
theorem c_X7_length {G : tw_G} (hG : tw_cG G) {S : tw_S} {r : Nat} (hr : tw_isRow r = true) : tw_M G yX7_length cX7_length 1 (some .int) 0 0 [.ref (tw_ad G r)] S ri_I (fun v S' => v = nI (tw_R S r).length ∧ S = S') := by
  refine tw_M.of (L := [(0, .ref (tw_ad G r))]) (by decide) (Nat.le_of_ble_eq_true rfl) rfl (fun X C N Q => ?_)
  have C : tw_C G X cX7_length RX7 := C
  refine tw_aload_n C dX7_length_0 0 rfl ?_
  refine tw_getN (k := 1) C dX7_length_1 fc_X7 (tw_row_sh hr) (hG _ (tw_row_lt hr).2) rfl (by decide) wd_72 ?_
  exact tw_ireturn C Q dX7_length_4 rfl rfl rfl ⟨rfl, rfl⟩
theorem c_X7_has {G : tw_G} (hG : tw_cG G) {S : tw_S} {r : Nat} (hr : tw_isRow r = true) {i : Nat} (hi : i < 2 ^ 32) : tw_M G yX7_has cX7_has 2 (some .boolean) 0 0 [.ref (tw_ad G r), .int (nI i)] S ri_I (fun v S' => v = bI (decide (i < (tw_R S r).length)) ∧ S = S') := by
  refine tw_M.of (L := [(0, .ref (tw_ad G r)), (1, .int (nI i))]) (by decide) (Nat.le_of_ble_eq_true rfl) rfl (fun X C N Q => ?_)
  have C : tw_C G X cX7_has RX7 := C
  rcases Nat.lt_or_ge i (2 ^ 31) with hi1 | hi1
  · skip
    refine TW.wf (fun hwf => ?_)
    obtain ⟨hlen, hby⟩ := hwf r (hG r (tw_row_lt hr).2) hr
    have hcap := tw_row_cap hr
    refine tw_iload_n C dX7_has_0 1 rfl ?_
    refine tn_if_lt C dX7_has_1 (tgt := 16) (by decide) (by omega) (fun c1 => ?_) (fun c1 => ?_)
    · exact absurd c1 id
    refine tw_iload_n C dX7_has_4 1 rfl ?_
    refine tw_aload_n C dX7_has_5 0 rfl ?_
    refine tw_getN (k := 1) C dX7_has_6 fc_X7 (tw_row_sh hr) (hG _ (tw_row_lt hr).2) rfl (by decide) wd_72 ?_
    refine tn_icmp_ge C dX7_has_9 (tgt := 16) (by decide) (by omega) (by omega) (fun c2 => ?_) (fun c2 => ?_)
    · skip
      refine tw_iconst C dX7_has_16 (v := nI 0) (by decide) ?_
      exact tw_ireturn C Q dX7_has_17 rfl rfl rfl ⟨bI_of_f (by omega), rfl⟩
    · skip
      refine tw_iconst C dX7_has_12 (v := nI 1) (by decide) ?_
      refine tw_goto C dX7_has_13 (tgt := 17) (by decide) ?_
      exact tw_ireturn C Q dX7_has_17 rfl rfl rfl ⟨bI_of_t (by omega), rfl⟩
  · have hneg := nI_neg hi1 hi
    refine TW.wf (fun hwf => ?_)
    obtain ⟨hlen, hby⟩ := hwf r (hG r (tw_row_lt hr).2) hr
    have hcap := tw_row_cap hr
    refine tw_iload_n C dX7_has_0 1 rfl ?_
    refine tw_if_lt C dX7_has_1 (tgt := 16) (by decide) (fun c1 => ?_) (fun c1 => ?_)
    · skip
      refine tw_iconst C dX7_has_16 (v := nI 0) (by decide) ?_
      exact tw_ireturn C Q dX7_has_17 rfl rfl rfl ⟨bI_of_f (by omega), rfl⟩
    · exact absurd hneg c1
theorem c_X7_takes {G : tw_G} (hG : tw_cG G) {S : tw_S} {r : Nat} (hr : tw_isRow r = true) {i : Nat} (hi : i < 2 ^ 31) : tw_M G yX7_takes cX7_takes 2 (some .boolean) 0 0 [.ref (tw_ad G r), .int (nI i)] S ri_I (fun v S' => v = bI (decide (i + (tw_R S r).length ≤ tw_cap r)) ∧ S = S') := by
  refine tw_M.of (L := [(0, .ref (tw_ad G r)), (1, .int (nI i))]) (by decide) (Nat.le_of_ble_eq_true rfl) rfl (fun X C N Q => ?_)
  have C : tw_C G X cX7_takes RX7 := C
  refine TW.wf (fun hwf => ?_)
  obtain ⟨hlen, hby⟩ := hwf r (hG r (tw_row_lt hr).2) hr
  have hcap := tw_row_cap hr
  refine tw_iload_n C dX7_takes_0 1 rfl ?_
  refine tw_aload_n C dX7_takes_1 0 rfl ?_
  refine tw_getR (q := r + 1) (k := 0) C dX7_takes_2 fc_X7 (tw_row_sh hr) (hG _ (tw_row_lt hr).2) rfl (by decide) wd_71 ?_
  refine tw_alen C dX7_takes_5 (tw_row_a0 hr) (tw_row_ar hr) (Or.inr rfl) (hG _ (tw_row_lt1 hr)) ?_
  refine tw_aload_n C dX7_takes_6 0 rfl ?_
  refine tw_getN (k := 1) C dX7_takes_7 fc_X7 (tw_row_sh hr) (hG _ (tw_row_lt hr).2) rfl (by decide) wd_72 ?_
  refine tw_isub C dX7_takes_10 (v := nI ((tw_cap r) - ((tw_R S r).length))) (pk_sub (by omega)) ?_
  refine tn_icmp_gt C dX7_takes_11 (tgt := 18) (by decide) (by omega) (by omega) (fun c1 => ?_) (fun c1 => ?_)
  · skip
    refine tw_iconst C dX7_takes_18 (v := nI 0) (by decide) ?_
    exact tw_ireturn C Q dX7_takes_19 rfl rfl rfl ⟨bI_of_f (by omega), rfl⟩
  · skip
    refine tw_iconst C dX7_takes_14 (v := nI 1) (by decide) ?_
    refine tw_goto C dX7_takes_15 (tgt := 19) (by decide) ?_
    exact tw_ireturn C Q dX7_takes_19 rfl rfl rfl ⟨bI_of_t (by omega), rfl⟩
theorem c_X7_at {G : tw_G} (hG : tw_cG G) {S : tw_S} {r : Nat} (hr : tw_isRow r = true) {i : Nat} (hi : i < 2 ^ 32) : tw_M G yX7_at cX7_at 2 (some .int) 0 0 [.ref (tw_ad G r), .int (nI i)] S ri_I (fun v S' => v = nI ((tw_R S r).getD i 0) ∧ S = S') := by
  refine tw_M.of (L := [(0, .ref (tw_ad G r)), (1, .int (nI i))]) (by decide) (Nat.le_of_ble_eq_true rfl) rfl (fun X C N Q => ?_)
  have C : tw_C G X cX7_at RX7 := C
  rcases Nat.lt_or_ge i (2 ^ 31) with hi1 | hi1
  · skip
    refine TW.wf (fun hwf => ?_)
    obtain ⟨hlen, hby⟩ := hwf r (hG r (tw_row_lt hr).2) hr
    have hcap := tw_row_cap hr
    refine tw_iload_n C dX7_at_0 1 rfl ?_
    refine tn_if_lt C dX7_at_1 (tgt := 30) (by decide) (by omega) (fun c1 => ?_) (fun c1 => ?_)
    · exact absurd c1 id
    refine tw_iload_n C dX7_at_4 1 rfl ?_
    refine tw_aload_n C dX7_at_5 0 rfl ?_
    refine tw_getN (k := 1) C dX7_at_6 fc_X7 (tw_row_sh hr) (hG _ (tw_row_lt hr).2) rfl (by decide) wd_72 ?_
    refine tn_icmp_ge C dX7_at_9 (tgt := 30) (by decide) (by omega) (by omega) (fun c2 => ?_) (fun c2 => ?_)
    · skip
      refine tw_iconst C dX7_at_30 (v := nI 0) (by decide) ?_
      exact tw_ireturn C Q dX7_at_31 rfl rfl rfl ⟨by rw [getD_out (by omega)], rfl⟩
    · skip
      refine tw_iload_n C dX7_at_12 1 rfl ?_
      refine tw_aload_n C dX7_at_13 0 rfl ?_
      refine tw_getR (q := r + 1) (k := 0) C dX7_at_14 fc_X7 (tw_row_sh hr) (hG _ (tw_row_lt hr).2) rfl (by decide) wd_71 ?_
      refine tw_alen C dX7_at_17 (tw_row_a0 hr) (tw_row_ar hr) (Or.inr rfl) (hG _ (tw_row_lt1 hr)) ?_
      refine tn_icmp_ge C dX7_at_18 (tgt := 30) (by decide) (by omega) (by omega) (fun c3 => ?_) (fun c3 => ?_)
      · skip
        refine tw_iconst C dX7_at_30 (v := nI 0) (by decide) ?_
        exact tw_ireturn C Q dX7_at_31 rfl rfl rfl ⟨by rw [getD_out (by omega)], rfl⟩
      · skip
        refine tw_aload_n C dX7_at_21 0 rfl ?_
        refine tw_getR (q := r + 1) (k := 0) C dX7_at_22 fc_X7 (tw_row_sh hr) (hG _ (tw_row_lt hr).2) rfl (by decide) wd_71 ?_
        refine tw_iload_n C dX7_at_25 1 rfl ?_
        refine tw_rald (x := (tw_R S r).getD i 0) C dX7_at_26 hr (hG _ (tw_row_lt hr).2) (hG _ (tw_row_lt1 hr)) (getD_some (by omega) 0) ?_
        refine tw_goto C dX7_at_27 (tgt := 31) (by decide) ?_
        exact tw_ireturn C Q dX7_at_31 rfl rfl rfl ⟨rfl, rfl⟩
  · have hneg := nI_neg hi1 hi
    refine TW.wf (fun hwf => ?_)
    obtain ⟨hlen, hby⟩ := hwf r (hG r (tw_row_lt hr).2) hr
    have hcap := tw_row_cap hr
    refine tw_iload_n C dX7_at_0 1 rfl ?_
    refine tw_if_lt C dX7_at_1 (tgt := 30) (by decide) (fun c1 => ?_) (fun c1 => ?_)
    · skip
      refine tw_iconst C dX7_at_30 (v := nI 0) (by decide) ?_
      exact tw_ireturn C Q dX7_at_31 rfl rfl rfl ⟨by rw [getD_out (by omega)], rfl⟩
    · exact absurd hneg c1
theorem c_X7_set {G : tw_G} (hG : tw_cG G) {S : tw_S} {r : Nat} (hr : tw_isRow r = true) {x : Nat} {i : Nat} (hi : i < 2 ^ 32) : tw_M G yX7_set cX7_set 3 none 0 0 [.ref (tw_ad G r), .int (nI i), .int (nI x)] S ri_V (fun _ S' => S' = tw_uR S r ((tw_R S r).set i (x % 256))) := by
  refine tw_M.of (L := [(0, .ref (tw_ad G r)), (1, .int (nI i)), (2, .int (nI x))]) (by decide) (Nat.le_of_ble_eq_true rfl) rfl (fun X C N Q => ?_)
  have C : tw_C G X cX7_set RX7 := C
  rcases Nat.lt_or_ge i (2 ^ 31) with hi1 | hi1
  · skip
    refine TW.wf (fun hwf => ?_)
    obtain ⟨hlen, hby⟩ := hwf r (hG r (tw_row_lt hr).2) hr
    have hcap := tw_row_cap hr
    refine tw_iload_n C dX7_set_0 1 rfl ?_
    refine tn_if_lt C dX7_set_1 (tgt := 32) (by decide) (by omega) (fun c1 => ?_) (fun c1 => ?_)
    · exact absurd c1 id
    refine tw_iload_n C dX7_set_4 1 rfl ?_
    refine tw_aload_n C dX7_set_5 0 rfl ?_
    refine tw_getN (k := 1) C dX7_set_6 fc_X7 (tw_row_sh hr) (hG _ (tw_row_lt hr).2) rfl (by decide) wd_72 ?_
    refine tn_icmp_ge C dX7_set_9 (tgt := 32) (by decide) (by omega) (by omega) (fun c2 => ?_) (fun c2 => ?_)
    · skip
      exact tw_return (v := ()) C Q dX7_set_32 rfl rfl (by rw [set_out (by omega), tw_uR_self])
    · skip
      refine tw_iload_n C dX7_set_12 1 rfl ?_
      refine tw_aload_n C dX7_set_13 0 rfl ?_
      refine tw_getR (q := r + 1) (k := 0) C dX7_set_14 fc_X7 (tw_row_sh hr) (hG _ (tw_row_lt hr).2) rfl (by decide) wd_71 ?_
      refine tw_alen C dX7_set_17 (tw_row_a0 hr) (tw_row_ar hr) (Or.inr rfl) (hG _ (tw_row_lt1 hr)) ?_
      refine tn_icmp_ge C dX7_set_18 (tgt := 32) (by decide) (by omega) (by omega) (fun c3 => ?_) (fun c3 => ?_)
      · skip
        exact tw_return (v := ()) C Q dX7_set_32 rfl rfl (by rw [set_out (by omega), tw_uR_self])
      · skip
        refine tw_aload_n C dX7_set_21 0 rfl ?_
        refine tw_getR (q := r + 1) (k := 0) C dX7_set_22 fc_X7 (tw_row_sh hr) (hG _ (tw_row_lt hr).2) rfl (by decide) wd_71 ?_
        refine tw_iload_n C dX7_set_25 1 rfl ?_
        refine tw_iload_n C dX7_set_26 2 rfl ?_
        refine tw_sipush C dX7_set_27 (v := nI 255) (by decide) ?_
        refine tw_iand C dX7_set_30 (v := nI (x % 256)) (nI_andm 8 (by decide)) ?_
        refine tw_rast C dX7_set_31 hr (hG _ (tw_row_lt hr).2) (hG _ (tw_row_lt1 hr)) (by omega) (Nat.mod_lt _ (by decide)) ?_
        exact tw_return (v := ()) C Q dX7_set_32 rfl rfl rfl
  · have hneg := nI_neg hi1 hi
    refine TW.wf (fun hwf => ?_)
    obtain ⟨hlen, hby⟩ := hwf r (hG r (tw_row_lt hr).2) hr
    have hcap := tw_row_cap hr
    refine tw_iload_n C dX7_set_0 1 rfl ?_
    refine tw_if_lt C dX7_set_1 (tgt := 32) (by decide) (fun c1 => ?_) (fun c1 => ?_)
    · skip
      exact tw_return (v := ()) C Q dX7_set_32 rfl rfl (by rw [set_out (by omega), tw_uR_self])
    · exact absurd hneg c1
theorem c_X7_add {G : tw_G} (hG : tw_cG G) {S : tw_S} {r : Nat} (hr : tw_isRow r = true) {x : Nat} : tw_M G yX7_add cX7_add 2 none 0 0 [.ref (tw_ad G r), .int (nI x)] S ri_V (fun _ S' => S' = tw_uR S r ((tw_R S r ++ [x % 256]).take (tw_cap r))) := by
  refine tw_M.of (L := [(0, .ref (tw_ad G r)), (1, .int (nI x))]) (by decide) (Nat.le_of_ble_eq_true rfl) rfl (fun X C N Q => ?_)
  have C : tw_C G X cX7_add RX7 := C
  refine TW.wf (fun hwf => ?_)
  obtain ⟨hlen, hby⟩ := hwf r (hG r (tw_row_lt hr).2) hr
  have hcap := tw_row_cap hr
  refine tw_aload_n C dX7_add_0 0 rfl ?_
  refine tw_getN (k := 1) C dX7_add_1 fc_X7 (tw_row_sh hr) (hG _ (tw_row_lt hr).2) rfl (by decide) wd_72 ?_
  refine tn_if_lt C dX7_add_4 (tgt := 43) (by decide) (by omega) (fun c1 => ?_) (fun c1 => ?_)
  · exact absurd c1 id
  refine tw_aload_n C dX7_add_7 0 rfl ?_
  refine tw_getN (k := 1) C dX7_add_8 fc_X7 (tw_row_sh hr) (hG _ (tw_row_lt hr).2) rfl (by decide) wd_72 ?_
  refine tw_aload_n C dX7_add_11 0 rfl ?_
  refine tw_getR (q := r + 1) (k := 0) C dX7_add_12 fc_X7 (tw_row_sh hr) (hG _ (tw_row_lt hr).2) rfl (by decide) wd_71 ?_
  refine tw_alen C dX7_add_15 (tw_row_a0 hr) (tw_row_ar hr) (Or.inr rfl) (hG _ (tw_row_lt1 hr)) ?_
  refine tn_icmp_ge C dX7_add_16 (tgt := 43) (by decide) (by omega) (by omega) (fun c2 => ?_) (fun c2 => ?_)
  · skip
    exact tw_return (v := ()) C Q dX7_add_43 rfl rfl (by rw [List.take_append_of_le_length (by omega), List.take_of_length_le (by omega), tw_uR_self])
  · skip
    refine tw_aload_n C dX7_add_19 0 rfl ?_
    refine tw_getR (q := r + 1) (k := 0) C dX7_add_20 fc_X7 (tw_row_sh hr) (hG _ (tw_row_lt hr).2) rfl (by decide) wd_71 ?_
    refine tw_aload_n C dX7_add_23 0 rfl ?_
    refine tw_getN (k := 1) C dX7_add_24 fc_X7 (tw_row_sh hr) (hG _ (tw_row_lt hr).2) rfl (by decide) wd_72 ?_
    refine tw_iload_n C dX7_add_27 1 rfl ?_
    refine tw_sipush C dX7_add_28 (v := nI 255) (by decide) ?_
    refine tw_iand C dX7_add_31 (v := nI (x % 256)) (nI_andm 8 (by decide)) ?_
    refine tw_radd (lv := []) C fc_X7 dX7_add_32 rfl dX7_add_33 rfl dX7_add_34 rfl dX7_add_35 rfl dX7_add_38 rfl dX7_add_39 rfl dX7_add_40 (pe := 43) rfl hr (hG _ (tw_row_lt hr).2) (hG _ (tw_row_lt1 hr)) (by decide) rfl wd_72 wd_72 rfl 0 rfl (by omega) (Nat.mod_lt _ (by decide)) ?_
    exact tw_return (v := ()) C Q dX7_add_43 rfl rfl (by rw [List.take_of_length_le (by simp; omega)])
theorem c_X7_flip {G : tw_G} (hG : tw_cG G) {S : tw_S} {r : Nat} (hr : tw_isRow r = true) {x : Nat} {i : Nat} (hi : i < 2 ^ 32) : tw_M G yX7_flip cX7_flip 3 (some .int) 1 22 [.ref (tw_ad G r), .int (nI i), .int (nI x)] S ri_I (fun v S' => v = nI (((tw_R S r).set i (((tw_R S r).getD i 0 ^^^ x) % 256)).getD i 0) ∧ S' = tw_uR S r ((tw_R S r).set i (((tw_R S r).getD i 0 ^^^ x) % 256))) := by
  refine tw_M.of (L := [(0, .ref (tw_ad G r)), (1, .int (nI i)), (2, .int (nI x))]) (by decide) (Nat.le_of_ble_eq_true rfl) rfl (fun X C N Q => ?_)
  have C : tw_C G X cX7_flip RX7 := C
  refine TW.wf (fun hwf => ?_)
  obtain ⟨hlen, hby⟩ := hwf r (hG r (tw_row_lt hr).2) hr
  have hcap := tw_row_cap hr
  refine tw_aload_n C dX7_flip_0 0 rfl ?_
  refine tw_iload_n C dX7_flip_1 1 rfl ?_
  refine tw_aload_n C dX7_flip_2 0 rfl ?_
  refine tw_iload_n C dX7_flip_3 1 rfl ?_
  refine tw_callV (As := [.int (nI i)]) (rest := [.int (nI i), .ref (tw_ad G r)]) C N (c_X7_at hG hr (i := i) (by omega)) mm_X7_at wd_241 rfl (hG _ (tw_row_lt hr).2) (tw_row_sh hr) rfl (by decide) rfl (Nat.le_of_ble_eq_true rfl) dX7_flip_4 ?_
  rintro _ _ ⟨rfl, rfl⟩
  show TW G X S [(0, .ref (tw_ad G r)), (1, .int (nI i)), (2, .int (nI x))] 7 [.int (nI ((tw_R S r).getD i 0)), .int (nI i), .ref (tw_ad G r)]
  refine tw_iload_n C dX7_flip_7 2 rfl ?_
  refine tw_ixor C dX7_flip_8 (v := nI (((tw_R S r).getD i 0) ^^^ x)) (nI_xor _ _) ?_
  refine tw_callV (As := [.int (nI i), .int (nI (((tw_R S r).getD i 0) ^^^ x))]) (rest := []) C N (c_X7_set hG hr (x := ((tw_R S r).getD i 0) ^^^ x) (i := i) (by omega)) mm_X7_set wd_245 rfl (hG _ (tw_row_lt hr).2) (tw_row_sh hr) rfl (by decide) rfl (Nat.le_of_ble_eq_true rfl) dX7_flip_9 ?_
  rintro _ _ rfl
  show TW G X (tw_uR S r ((tw_R S r).set i ((((tw_R S r).getD i 0) ^^^ x) % 256))) [(0, .ref (tw_ad G r)), (1, .int (nI i)), (2, .int (nI x))] 12 []
  refine tw_aload_n C dX7_flip_12 0 rfl ?_
  refine tw_iload_n C dX7_flip_13 1 rfl ?_
  refine tw_callV (As := [.int (nI i)]) (rest := []) C N (c_X7_at hG hr (i := i) (by omega)) mm_X7_at wd_241 rfl (hG _ (tw_row_lt hr).2) (tw_row_sh hr) rfl (by decide) rfl (Nat.le_of_ble_eq_true rfl) dX7_flip_14 ?_
  rintro _ _ ⟨rfl, rfl⟩
  show TW G X (tw_uR S r ((tw_R S r).set i ((((tw_R S r).getD i 0) ^^^ x) % 256))) [(0, .ref (tw_ad G r)), (1, .int (nI i)), (2, .int (nI x))] 17 [.int (nI ((tw_R (tw_uR S r ((tw_R S r).set i ((((tw_R S r).getD i 0) ^^^ x) % 256))) r).getD i 0))]
  exact tw_ireturn C Q dX7_flip_17 rfl rfl rfl ⟨by rw [tq_uR_same], rfl⟩
theorem c_X7_shorten {G : tw_G} (hG : tw_cG G) {S : tw_S} {r : Nat} (hr : tw_isRow r = true) {i : Nat} (hi : i < 2 ^ 31) : tw_M G yX7_shorten cX7_shorten 2 none 0 0 [.ref (tw_ad G r), .int (nI i)] S ri_V (fun _ S' => S' = tw_uR S r ((tw_R S r).take i)) := by
  refine tw_M.of (L := [(0, .ref (tw_ad G r)), (1, .int (nI i))]) (by decide) (Nat.le_of_ble_eq_true rfl) rfl (fun X C N Q => ?_)
  have C : tw_C G X cX7_shorten RX7 := C
  refine TW.wf (fun hwf => ?_)
  obtain ⟨hlen, hby⟩ := hwf r (hG r (tw_row_lt hr).2) hr
  have hcap := tw_row_cap hr
  refine tw_iload_n C dX7_shorten_0 1 rfl ?_
  refine tn_if_lt C dX7_shorten_1 (tgt := 17) (by decide) (by omega) (fun c1 => ?_) (fun c1 => ?_)
  · exact absurd c1 id
  refine tw_iload_n C dX7_shorten_4 1 rfl ?_
  refine tw_aload_n C dX7_shorten_5 0 rfl ?_
  refine tw_getN (k := 1) C dX7_shorten_6 fc_X7 (tw_row_sh hr) (hG _ (tw_row_lt hr).2) rfl (by decide) wd_72 ?_
  refine tn_icmp_ge C dX7_shorten_9 (tgt := 17) (by decide) (by omega) (by omega) (fun c2 => ?_) (fun c2 => ?_)
  · skip
    exact tw_return (v := ()) C Q dX7_shorten_17 rfl rfl (by rw [List.take_of_length_le (by omega), tw_uR_self])
  · skip
    refine tw_aload_n C dX7_shorten_12 0 rfl ?_
    refine tw_iload_n C dX7_shorten_13 1 rfl ?_
    refine tw_putN C dX7_shorten_14 fc_X7 hr (hG _ (tw_row_lt hr).2) (by decide) rfl wd_72 rfl (by omega) ?_
    exact tw_return (v := ()) C Q dX7_shorten_17 rfl rfl rfl
theorem c_X7_becomeZeros {G : tw_G} (hG : tw_cG G) {S : tw_S} {r : Nat} (hr : tw_isRow r = true) {i : Nat} (hi : i < 2 ^ 31) : tw_M G yX7_becomeZeros cX7_becomeZeros 3 none 1 21 [.ref (tw_ad G r), .int (nI i)] S ri_V (fun _ S' => S' = tw_uR S r ((List.replicate i 0).take (tw_cap r))) := by
  refine tw_M.of (L := [(0, .ref (tw_ad G r)), (1, .int (nI i))]) (by decide) (Nat.le_of_ble_eq_true rfl) rfl (fun X C N Q => ?_)
  have C : tw_C G X cX7_becomeZeros RX7 := C
  have loop : ∀ (d : Nat) (k : Nat) (_ : k + d = i), TW G X (tw_uR S r ((List.replicate k 0).take (tw_cap r))) [(2, .int (nI k)), (0, .ref (tw_ad G r)), (1, .int (nI i))] 7 [] := by
    intro d
    induction d with
    | zero =>
      intro k hk
      refine tw_iload_n C dX7_becomeZeros_7 0 rfl ?_
      refine tw_iload_n C dX7_becomeZeros_8 2 rfl ?_
      refine tn_icmp_ge C dX7_becomeZeros_9 (tgt := 23) (by decide) (by omega) (by omega) (fun c1 => ?_) (fun c1 => ?_)
      · skip
        exact tw_return (v := ()) C Q dX7_becomeZeros_23 rfl rfl (by rw [show k = i by omega])
      · exact absurd c1 (by omega)
    | succ d ih =>
      intro k hk
      refine tw_iload_n C dX7_becomeZeros_7 0 rfl ?_
      refine tw_iload_n C dX7_becomeZeros_8 2 rfl ?_
      refine tn_icmp_ge C dX7_becomeZeros_9 (tgt := 23) (by decide) (by omega) (by omega) (fun c1 => ?_) (fun c1 => ?_)
      · exact absurd c1 (by omega)
      refine tw_aload_n C dX7_becomeZeros_12 1 rfl ?_
      refine tw_iconst C dX7_becomeZeros_13 (v := nI 0) (by decide) ?_
      refine tw_callV (As := [.int (nI 0)]) (rest := []) C N (c_X7_add hG hr (x := 0)) mm_X7_add wd_177 rfl (hG _ (tw_row_lt hr).2) (tw_row_sh hr) rfl (by decide) rfl (Nat.le_of_ble_eq_true rfl) dX7_becomeZeros_14 ?_
      rintro _ _ rfl
      show TW G X (tw_uR (tw_uR S r ((List.replicate k 0).take (tw_cap r))) r ((tw_R (tw_uR S r ((List.replicate k 0).take (tw_cap r))) r ++ [0 % 256]).take (tw_cap r))) [(2, .int (nI k)), (0, .ref (tw_ad G r)), (1, .int (nI i))] 17 []
      refine tw_iinc (k := 0) (v := nI (k + 1)) (L' := [(2, .int (nI (k + 1))), (0, .ref (tw_ad G r)), (1, .int (nI i))]) C N dX7_becomeZeros_17 rfl (tn_inc1 _) (by decide) rfl ?_
      refine tw_goto C dX7_becomeZeros_20 (tgt := 7) (by decide) ?_
      refine TW.sS (S' := tw_uR S r ((List.replicate (k + 1) 0).take (tw_cap r))) (by rw [tw_uR_uR, tq_uR_same, tk_tk, rep_succ]) ?_
      exact ih (k + 1) (by omega)
  refine TW.wf (fun hwf => ?_)
  obtain ⟨hlen, hby⟩ := hwf r (hG r (tw_row_lt hr).2) hr
  have hcap := tw_row_cap hr
  refine tw_aload_n C dX7_becomeZeros_0 0 rfl ?_
  refine tw_iconst C dX7_becomeZeros_1 (v := nI 0) (by decide) ?_
  refine tw_putN C dX7_becomeZeros_2 fc_X7 hr (hG _ (tw_row_lt hr).2) (by decide) rfl wd_72 rfl (Nat.zero_le _) ?_
  refine tw_iconst C dX7_becomeZeros_5 (v := nI 0) (by decide) ?_
  refine tw_istore_n (L' := [(2, .int (nI 0)), (0, .ref (tw_ad G r)), (1, .int (nI i))]) C N dX7_becomeZeros_6 rfl (by decide) rfl ?_
  refine TW.sS (S' := tw_uR S r ((List.replicate 0 0).take (tw_cap r))) (by simp) ?_
  exact loop i 0 (by omega)
theorem c_X7_addAll {G : tw_G} (hG : tw_cG G) {S : tw_S} {r : Nat} (hr : tw_isRow r = true) {q : Nat} (hq : tw_isRow q = true) (hne : q ≠ r) {a e : Nat} (ha : a < 2 ^ 30) (he : e < 2 ^ 30) : tw_M G yX7_addAll cX7_addAll 5 none 1 21 [.ref (tw_ad G r), .ref (tw_ad G q), .int (nI a), .int (nI e)] S ri_V (fun _ S' => S' = tw_uR S r ((tw_R S r ++ cutD (tw_R S q) a (e - a)).take (tw_cap r))) := by
  refine tw_M.of (L := [(0, .ref (tw_ad G r)), (1, .ref (tw_ad G q)), (2, .int (nI a)), (3, .int (nI e))]) (by decide) (Nat.le_of_ble_eq_true rfl) rfl (fun X C N Q => ?_)
  have C : tw_C G X cX7_addAll RX7 := C
  refine TW.wf (fun hwf => ?_)
  obtain ⟨hlen, hby⟩ := hwf r (hG r (tw_row_lt hr).2) hr
  have hcap := tw_row_cap hr
  have loop : ∀ (d : Nat) (k : Nat) (_ : a + k + d = max a e), TW G X (tw_uR S r ((tw_R S r ++ cutD (tw_R S q) a k).take (tw_cap r))) [(4, .int (nI (a + k))), (0, .ref (tw_ad G r)), (1, .ref (tw_ad G q)), (2, .int (nI a)), (3, .int (nI e))] 3 [] := by
    intro d
    induction d with
    | zero =>
      intro k hk
      refine tw_iload C dX7_addAll_3 0 rfl ?_
      refine tw_iload_n C dX7_addAll_5 4 rfl ?_
      refine tn_icmp_ge C dX7_addAll_6 (tgt := 25) (by decide) (by omega) (by omega) (fun c1 => ?_) (fun c1 => ?_)
      · skip
        exact tw_return (v := ()) C Q dX7_addAll_25 rfl rfl (by rw [show k = e - a by omega])
      · exact absurd c1 (by omega)
    | succ d ih =>
      intro k hk
      refine tw_iload C dX7_addAll_3 0 rfl ?_
      refine tw_iload_n C dX7_addAll_5 4 rfl ?_
      refine tn_icmp_ge C dX7_addAll_6 (tgt := 25) (by decide) (by omega) (by omega) (fun c1 => ?_) (fun c1 => ?_)
      · exact absurd c1 (by omega)
      refine tw_aload_n C dX7_addAll_9 1 rfl ?_
      refine tw_aload_n C dX7_addAll_10 2 rfl ?_
      refine tw_iload C dX7_addAll_11 0 rfl ?_
      refine tw_callV (As := [.int (nI (a + k))]) (rest := [.ref (tw_ad G r)]) C N (c_X7_at hG hq (i := a + k) (by omega)) mm_X7_at wd_241 rfl (hG _ (tw_row_lt hq).2) (tw_row_sh hq) rfl (by decide) rfl (Nat.le_of_ble_eq_true rfl) dX7_addAll_13 ?_
      rintro _ _ ⟨rfl, rfl⟩
      show TW G X (tw_uR S r ((tw_R S r ++ cutD (tw_R S q) a k).take (tw_cap r))) [(4, .int (nI (a + k))), (0, .ref (tw_ad G r)), (1, .ref (tw_ad G q)), (2, .int (nI a)), (3, .int (nI e))] 16 [.int (nI ((tw_R (tw_uR S r ((tw_R S r ++ cutD (tw_R S q) a k).take (tw_cap r))) q).getD (a + k) 0)), .ref (tw_ad G r)]
      refine tw_callV (As := [.int (nI ((tw_R (tw_uR S r ((tw_R S r ++ cutD (tw_R S q) a k).take (tw_cap r))) q).getD (a + k) 0))]) (rest := []) C N (c_X7_add hG hr (x := (tw_R (tw_uR S r ((tw_R S r ++ cutD (tw_R S q) a k).take (tw_cap r))) q).getD (a + k) 0)) mm_X7_add wd_177 rfl (hG _ (tw_row_lt hr).2) (tw_row_sh hr) rfl (by decide) rfl (Nat.le_of_ble_eq_true rfl) dX7_addAll_16 ?_
      rintro _ _ rfl
      show TW G X (tw_uR (tw_uR S r ((tw_R S r ++ cutD (tw_R S q) a k).take (tw_cap r))) r ((tw_R (tw_uR S r ((tw_R S r ++ cutD (tw_R S q) a k).take (tw_cap r))) r ++ [((tw_R (tw_uR S r ((tw_R S r ++ cutD (tw_R S q) a k).take (tw_cap r))) q).getD (a + k) 0) % 256]).take (tw_cap r))) [(4, .int (nI (a + k))), (0, .ref (tw_ad G r)), (1, .ref (tw_ad G q)), (2, .int (nI a)), (3, .int (nI e))] 19 []
      refine tw_iinc (k := 0) (v := nI (a + k + 1)) (L' := [(4, .int (nI (a + k + 1))), (0, .ref (tw_ad G r)), (1, .ref (tw_ad G q)), (2, .int (nI a)), (3, .int (nI e))]) C N dX7_addAll_19 rfl (tn_inc1 _) (by decide) rfl ?_
      refine tw_goto C dX7_addAll_22 (tgt := 3) (by decide) ?_
      refine TW.sS (S' := tw_uR S r ((tw_R S r ++ cutD (tw_R S q) a (k + 1)).take (tw_cap r))) (by rw [tw_uR_uR, tq_uR_same, tq_uR_ne _ _ hne, tk_tk, cutD_succ, Nat.mod_eq_of_lt (getD_in (hwf q (hG q (tw_row_lt hq).2) hq).2 _), List.append_assoc]) ?_
      exact ih (k + 1) (by omega)
  refine tw_iload_n C dX7_addAll_0 2 rfl ?_
  refine tw_istore (L' := [(4, .int (nI a)), (0, .ref (tw_ad G r)), (1, .ref (tw_ad G q)), (2, .int (nI a)), (3, .int (nI e))]) C N dX7_addAll_1 (i := 4) (by decide) rfl ?_
  refine TW.sS (S' := tw_uR S r ((tw_R S r ++ cutD (tw_R S q) a 0).take (tw_cap r))) (by simp [cutD, List.take_of_length_le hlen, tw_uR_self]) ?_
  exact loop (e - a) 0 (by omega)
theorem c_X7_become {G : tw_G} (hG : tw_cG G) {S : tw_S} {r : Nat} (hr : tw_isRow r = true) {q : Nat} (hq : tw_isRow q = true) (hne : q ≠ r) : tw_M G yX7_become cX7_become 2 none 2 45 [.ref (tw_ad G r), .ref (tw_ad G q)] S ri_V (fun _ S' => S' = tw_uR S r ((tw_R S q).take (tw_cap r))) := by
  refine tw_M.of (L := [(0, .ref (tw_ad G r)), (1, .ref (tw_ad G q))]) (by decide) (Nat.le_of_ble_eq_true rfl) rfl (fun X C N Q => ?_)
  have C : tw_C G X cX7_become RX7 := C
  refine TW.wf (fun hwf => ?_)
  obtain ⟨hlen, hby⟩ := hwf r (hG r (tw_row_lt hr).2) hr
  have hcap := tw_row_cap hr
  obtain ⟨hlenq, hbyq⟩ := hwf q (hG q (tw_row_lt hq).2) hq
  have hcapq := tw_row_cap hq
  refine tw_aload_n C dX7_become_0 0 rfl ?_
  refine tw_iconst C dX7_become_1 (v := nI 0) (by decide) ?_
  refine tw_putN C dX7_become_2 fc_X7 hr (hG _ (tw_row_lt hr).2) (by decide) rfl wd_72 rfl (Nat.zero_le _) ?_
  refine tw_aload_n C dX7_become_5 0 rfl ?_
  refine tw_aload_n C dX7_become_6 1 rfl ?_
  refine tw_iconst C dX7_become_7 (v := nI 0) (by decide) ?_
  refine tw_aload_n C dX7_become_8 1 rfl ?_
  refine tw_callV (As := []) (rest := [.int (nI 0), .ref (tw_ad G q), .ref (tw_ad G r)]) C N (c_X7_length hG hq) mm_X7_length wd_261 rfl (hG _ (tw_row_lt hq).2) (tw_row_sh hq) rfl (by decide) rfl (Nat.le_of_ble_eq_true rfl) dX7_become_9 ?_
  rintro _ _ ⟨rfl, rfl⟩
  show TW G X (tw_uR S r ((tw_R S r).take 0)) [(0, .ref (tw_ad G r)), (1, .ref (tw_ad G q))] 12 [.int (nI ((tw_R (tw_uR S r ((tw_R S r).take 0)) q).length)), .int (nI 0), .ref (tw_ad G q), .ref (tw_ad G r)]
  have hlq : (tw_R (tw_uR S r ((tw_R S r).take 0)) q).length ≤ 640 := by rw [tq_uR_ne _ _ hne]; omega
  refine tw_callV (As := [.ref (tw_ad G q), .int (nI 0), .int (nI ((tw_R (tw_uR S r ((tw_R S r).take 0)) q).length))]) (rest := []) C N (c_X7_addAll hG hr hq hne (a := 0) (e := (tw_R (tw_uR S r ((tw_R S r).take 0)) q).length) (by omega) (by omega)) mm_X7_addAll wd_262 rfl (hG _ (tw_row_lt hr).2) (tw_row_sh hr) rfl (by decide) rfl (Nat.le_of_ble_eq_true rfl) dX7_become_12 ?_
  rintro _ _ rfl
  show TW G X (tw_uR (tw_uR S r ((tw_R S r).take 0)) r ((tw_R (tw_uR S r ((tw_R S r).take 0)) r ++ cutD (tw_R (tw_uR S r ((tw_R S r).take 0)) q) 0 (((tw_R (tw_uR S r ((tw_R S r).take 0)) q).length) - 0)).take (tw_cap r))) [(0, .ref (tw_ad G r)), (1, .ref (tw_ad G q))] 15 []
  exact tw_return (v := ()) C Q dX7_become_15 rfl rfl (by rw [tw_uR_uR, tq_uR_same, tq_uR_ne _ _ hne, Nat.sub_zero, cutD_all, List.take_zero, List.nil_append])
theorem c_X7_number {G : tw_G} (hG : tw_cG G) {S : tw_S} {r : Nat} (hr : tw_isRow r = true) {f i : Nat} (hf : f < 2 ^ 30) (hi : i ≤ 8) : tw_M G yX7_number cX7_number 6 (some .long) 1 21 [.ref (tw_ad G r), .int (nI f), .int (nI i)] S ri_J (fun v S' => v = lN (nb (tw_R S r) f i) ∧ S = S') := by
  refine tw_M.of (L := [(0, .ref (tw_ad G r)), (1, .int (nI f)), (2, .int (nI i))]) (by decide) (Nat.le_of_ble_eq_true rfl) rfl (fun X C N Q => ?_)
  have C : tw_C G X cX7_number RX7 := C
  refine TW.wf (fun hwf => ?_)
  obtain ⟨hlen, hby⟩ := hwf r (hG r (tw_row_lt hr).2) hr
  have hcap := tw_row_cap hr
  have loop : ∀ (d : Nat) (k : Nat) (_ : k + d = i), TW G X S [(5, .int (nI k)), (3, .long (lN (nb (tw_R S r) f k))), (0, .ref (tw_ad G r)), (1, .int (nI f)), (2, .int (nI i))] 5 [] := by
    intro d
    induction d with
    | zero =>
      intro k hk
      refine tw_iload C dX7_number_5 0 rfl ?_
      refine tw_iload_n C dX7_number_7 4 rfl ?_
      refine tn_icmp_ge C dX7_number_8 (tgt := 32) (by decide) (by omega) (by omega) (fun c1 => ?_) (fun c1 => ?_)
      · skip
        refine tw_lload_n C dX7_number_32 1 rfl ?_
        exact tw_lreturn C Q dX7_number_33 rfl rfl ⟨by rw [show k = i by omega], rfl⟩
      · exact absurd c1 (by omega)
    | succ d ih =>
      intro k hk
      refine tw_iload C dX7_number_5 0 rfl ?_
      refine tw_iload_n C dX7_number_7 4 rfl ?_
      refine tn_icmp_ge C dX7_number_8 (tgt := 32) (by decide) (by omega) (by omega) (fun c1 => ?_) (fun c1 => ?_)
      · exact absurd c1 (by omega)
      have hx := getD_in hby (f + k)
      refine tw_lload_n C dX7_number_11 1 rfl ?_
      refine tw_bipush C dX7_number_12 (v := nI 8) (by decide) ?_
      refine tw_lshl C dX7_number_14 (v := lN ((nb (tw_R S r) f k) * 256)) (lN_shl _ 8 (by decide)) ?_
      refine tw_aload_n C dX7_number_15 2 rfl ?_
      refine tw_iload_n C dX7_number_16 3 rfl ?_
      refine tw_iload C dX7_number_17 0 rfl ?_
      refine tw_iadd C dX7_number_19 (v := nI (f + k)) (nI_add _ _) ?_
      refine tw_callV (As := [.int (nI (f + k))]) (rest := [.long (lN ((nb (tw_R S r) f k) * 256))]) C N (c_X7_at hG hr (i := f + k) (by omega)) mm_X7_at wd_241 rfl (hG _ (tw_row_lt hr).2) (tw_row_sh hr) rfl (by decide) rfl (Nat.le_of_ble_eq_true rfl) dX7_number_20 ?_
      rintro _ _ ⟨rfl, rfl⟩
      show TW G X S [(5, .int (nI k)), (3, .long (lN (nb (tw_R S r) f k))), (0, .ref (tw_ad G r)), (1, .int (nI f)), (2, .int (nI i))] 23 [.int (nI ((tw_R S r).getD (f + k) 0)), .long (lN ((nb (tw_R S r) f k) * 256))]
      refine tw_i2l C dX7_number_23 (v := lN ((tw_R S r).getD (f + k) 0)) (nI_i64 (by omega)) ?_
      refine tw_lor C dX7_number_24 (v := lN (nb (tw_R S r) f (k + 1))) (by rw [lN_or, or256 hx]; rfl) ?_
      refine tw_lstore_n (L' := [(3, .long (lN (nb (tw_R S r) f (k + 1)))), (5, .int (nI k)), (0, .ref (tw_ad G r)), (1, .int (nI f)), (2, .int (nI i))]) C N dX7_number_25 rfl (by decide) rfl ?_
      refine tw_iinc (k := 1) (v := nI (k + 1)) (L' := [(5, .int (nI (k + 1))), (3, .long (lN (nb (tw_R S r) f (k + 1)))), (0, .ref (tw_ad G r)), (1, .int (nI f)), (2, .int (nI i))]) C N dX7_number_26 rfl (tn_inc1 _) (by decide) rfl ?_
      refine tw_goto C dX7_number_29 (tgt := 5) (by decide) ?_
      exact ih (k + 1) (by omega)
  refine tw_lconst C dX7_number_0 (v := lN 0) rfl ?_
  refine tw_lstore_n (L' := [(3, .long (lN 0)), (0, .ref (tw_ad G r)), (1, .int (nI f)), (2, .int (nI i))]) C N dX7_number_1 rfl (by decide) rfl ?_
  refine tw_iconst C dX7_number_2 (v := nI 0) (by decide) ?_
  refine tw_istore (L' := [(5, .int (nI 0)), (3, .long (lN 0)), (0, .ref (tw_ad G r)), (1, .int (nI f)), (2, .int (nI i))]) C N dX7_number_3 (i := 5) (by decide) rfl ?_
  exact loop i 0 (by omega)
theorem c_X7_addNumber {G : tw_G} (hG : tw_cG G) {S : tw_S} {r : Nat} (hr : tw_isRow r = true) {v i : Nat} (hv : v < 2 ^ 64) (hi : i ≤ 8) : tw_M G yX7_addNumber cX7_addNumber 5 none 1 21 [.ref (tw_ad G r), .long (lN v), .int (nI i)] S ri_V (fun _ S' => S' = tw_uR S r ((tw_R S r ++ be v i).take (tw_cap r))) := by
  refine tw_M.of (L := [(0, .ref (tw_ad G r)), (1, .long (lN v)), (3, .int (nI i))]) (by decide) (Nat.le_of_ble_eq_true rfl) rfl (fun X C N Q => ?_)
  have C : tw_C G X cX7_addNumber RX7 := C
  refine TW.wf (fun hwf => ?_)
  obtain ⟨hlen, hby⟩ := hwf r (hG r (tw_row_lt hr).2) hr
  have hcap := tw_row_cap hr
  have loop : ∀ (d : Nat) (k : Nat) (_ : k + d = i), TW G X (tw_uR S r ((tw_R S r ++ (be v i).take k).take (tw_cap r))) [(4, .int (nI k)), (0, .ref (tw_ad G r)), (1, .long (lN v)), (3, .int (nI i))] 3 [] := by
    intro d
    induction d with
    | zero =>
      intro k hk
      refine tw_iload C dX7_addNumber_3 0 rfl ?_
      refine tw_iload_n C dX7_addNumber_5 3 rfl ?_
      refine tn_icmp_ge C dX7_addNumber_6 (tgt := 31) (by decide) (by omega) (by omega) (fun c1 => ?_) (fun c1 => ?_)
      · skip
        exact tw_return (v := ()) C Q dX7_addNumber_31 rfl rfl (by rw [show k = i by omega, List.take_of_length_le (l := be v i) (by rw [be_len]; omega)])
      · exact absurd c1 (by omega)
    | succ d ih =>
      intro k hk
      refine tw_iload C dX7_addNumber_3 0 rfl ?_
      refine tw_iload_n C dX7_addNumber_5 3 rfl ?_
      refine tn_icmp_ge C dX7_addNumber_6 (tgt := 31) (by decide) (by omega) (by omega) (fun c1 => ?_) (fun c1 => ?_)
      · exact absurd c1 (by omega)
      refine tw_aload_n C dX7_addNumber_9 1 rfl ?_
      refine tw_lload_n C dX7_addNumber_10 2 rfl ?_
      refine tw_bipush C dX7_addNumber_11 (v := nI 8) (by decide) ?_
      refine tw_iload_n C dX7_addNumber_13 3 rfl ?_
      refine tw_iconst C dX7_addNumber_14 (v := nI 1) (by decide) ?_
      refine tw_isub C dX7_addNumber_15 (v := nI (i - 1)) (pk_sub (by omega)) ?_
      refine tw_iload C dX7_addNumber_16 0 rfl ?_
      refine tw_isub C dX7_addNumber_18 (v := nI ((i - 1) - k)) (pk_sub (by omega)) ?_
      refine tw_imul C dX7_addNumber_19 (v := nI (8 * ((i - 1) - k))) (pk_mul _ _) ?_
      refine tw_lushr C dX7_addNumber_20 (v := lN (v / 2 ^ (8 * ((i - 1) - k)))) (lN_ushr hv (8 * ((i - 1) - k)) (by omega)) ?_
      refine tw_l2i C dX7_addNumber_21 (v := nI (v / 2 ^ (8 * ((i - 1) - k)))) (lN_i32 _) ?_
      refine tw_callV (As := [.int (nI (v / 2 ^ (8 * ((i - 1) - k))))]) (rest := []) C N (c_X7_add hG hr (x := v / 2 ^ (8 * ((i - 1) - k)))) mm_X7_add wd_177 rfl (hG _ (tw_row_lt hr).2) (tw_row_sh hr) rfl (by decide) rfl (Nat.le_of_ble_eq_true rfl) dX7_addNumber_22 ?_
      rintro _ _ rfl
      show TW G X (tw_uR (tw_uR S r ((tw_R S r ++ (be v i).take k).take (tw_cap r))) r ((tw_R (tw_uR S r ((tw_R S r ++ (be v i).take k).take (tw_cap r))) r ++ [(v / 2 ^ (8 * ((i - 1) - k))) % 256]).take (tw_cap r))) [(4, .int (nI k)), (0, .ref (tw_ad G r)), (1, .long (lN v)), (3, .int (nI i))] 25 []
      refine tw_iinc (k := 0) (v := nI (k + 1)) (L' := [(4, .int (nI (k + 1))), (0, .ref (tw_ad G r)), (1, .long (lN v)), (3, .int (nI i))]) C N dX7_addNumber_25 rfl (tn_inc1 _) (by decide) rfl ?_
      refine tw_goto C dX7_addNumber_28 (tgt := 3) (by decide) ?_
      refine TW.sS (S' := tw_uR S r ((tw_R S r ++ (be v i).take (k + 1)).take (tw_cap r))) (by rw [tw_uR_uR, tq_uR_same, tk_tk, be_take (by omega), List.append_assoc]) ?_
      exact ih (k + 1) (by omega)
  refine tw_iconst C dX7_addNumber_0 (v := nI 0) (by decide) ?_
  refine tw_istore (L' := [(4, .int (nI 0)), (0, .ref (tw_ad G r)), (1, .long (lN v)), (3, .int (nI i))]) C N dX7_addNumber_1 (i := 4) (by decide) rfl ?_
  refine TW.sS (S' := tw_uR S r ((tw_R S r ++ (be v i).take 0).take (tw_cap r))) (by simp [List.take_of_length_le hlen, tw_uR_self]) ?_
  exact loop i 0 (by omega)
theorem c_X7_setNumber {G : tw_G} (hG : tw_cG G) {S : tw_S} {r : Nat} (hr : tw_isRow r = true) {f v i : Nat} (hf : f < 2 ^ 30) (hv : v < 2 ^ 64) (hi : i ≤ 8) : tw_M G yX7_setNumber cX7_setNumber 6 none 1 22 [.ref (tw_ad G r), .int (nI f), .long (lN v), .int (nI i)] S ri_V (fun _ S' => S' = tw_uR S r (setN (tw_R S r) f (be v i))) := by
  refine tw_M.of (L := [(0, .ref (tw_ad G r)), (1, .int (nI f)), (2, .long (lN v)), (4, .int (nI i))]) (by decide) (Nat.le_of_ble_eq_true rfl) rfl (fun X C N Q => ?_)
  have C : tw_C G X cX7_setNumber RX7 := C
  refine TW.wf (fun hwf => ?_)
  obtain ⟨hlen, hby⟩ := hwf r (hG r (tw_row_lt hr).2) hr
  have hcap := tw_row_cap hr
  have loop : ∀ (d : Nat) (k : Nat) (_ : k + d = i), TW G X (tw_uR S r (setN (tw_R S r) f ((be v i).take k))) [(5, .int (nI k)), (0, .ref (tw_ad G r)), (1, .int (nI f)), (2, .long (lN v)), (4, .int (nI i))] 3 [] := by
    intro d
    induction d with
    | zero =>
      intro k hk
      refine tw_iload C dX7_setNumber_3 0 rfl ?_
      refine tw_iload C dX7_setNumber_5 4 rfl ?_
      refine tn_icmp_ge C dX7_setNumber_7 (tgt := 37) (by decide) (by omega) (by omega) (fun c1 => ?_) (fun c1 => ?_)
      · skip
        exact tw_return (v := ()) C Q dX7_setNumber_37 rfl rfl (by rw [show k = i by omega, List.take_of_length_le (l := be v i) (by rw [be_len]; omega)])
      · exact absurd c1 (by omega)
    | succ d ih =>
      intro k hk
      refine tw_iload C dX7_setNumber_3 0 rfl ?_
      refine tw_iload C dX7_setNumber_5 4 rfl ?_
      refine tn_icmp_ge C dX7_setNumber_7 (tgt := 37) (by decide) (by omega) (by omega) (fun c1 => ?_) (fun c1 => ?_)
      · exact absurd c1 (by omega)
      refine tw_aload_n C dX7_setNumber_10 1 rfl ?_
      refine tw_iload_n C dX7_setNumber_11 2 rfl ?_
      refine tw_iload C dX7_setNumber_12 0 rfl ?_
      refine tw_iadd C dX7_setNumber_14 (v := nI (f + k)) (nI_add _ _) ?_
      refine tw_lload_n C dX7_setNumber_15 3 rfl ?_
      refine tw_bipush C dX7_setNumber_16 (v := nI 8) (by decide) ?_
      refine tw_iload C dX7_setNumber_18 4 rfl ?_
      refine tw_iconst C dX7_setNumber_20 (v := nI 1) (by decide) ?_
      refine tw_isub C dX7_setNumber_21 (v := nI (i - 1)) (pk_sub (by omega)) ?_
      refine tw_iload C dX7_setNumber_22 0 rfl ?_
      refine tw_isub C dX7_setNumber_24 (v := nI ((i - 1) - k)) (pk_sub (by omega)) ?_
      refine tw_imul C dX7_setNumber_25 (v := nI (8 * ((i - 1) - k))) (pk_mul _ _) ?_
      refine tw_lushr C dX7_setNumber_26 (v := lN (v / 2 ^ (8 * ((i - 1) - k)))) (lN_ushr hv (8 * ((i - 1) - k)) (by omega)) ?_
      refine tw_l2i C dX7_setNumber_27 (v := nI (v / 2 ^ (8 * ((i - 1) - k)))) (lN_i32 _) ?_
      refine tw_callV (As := [.int (nI (f + k)), .int (nI (v / 2 ^ (8 * ((i - 1) - k))))]) (rest := []) C N (c_X7_set hG hr (x := v / 2 ^ (8 * ((i - 1) - k))) (i := f + k) (by omega)) mm_X7_set wd_245 rfl (hG _ (tw_row_lt hr).2) (tw_row_sh hr) rfl (by decide) rfl (Nat.le_of_ble_eq_true rfl) dX7_setNumber_28 ?_
      rintro _ _ rfl
      show TW G X (tw_uR (tw_uR S r (setN (tw_R S r) f ((be v i).take k))) r ((tw_R (tw_uR S r (setN (tw_R S r) f ((be v i).take k))) r).set (f + k) ((v / 2 ^ (8 * ((i - 1) - k))) % 256))) [(5, .int (nI k)), (0, .ref (tw_ad G r)), (1, .int (nI f)), (2, .long (lN v)), (4, .int (nI i))] 31 []
      refine tw_iinc (k := 0) (v := nI (k + 1)) (L' := [(5, .int (nI (k + 1))), (0, .ref (tw_ad G r)), (1, .int (nI f)), (2, .long (lN v)), (4, .int (nI i))]) C N dX7_setNumber_31 rfl (tn_inc1 _) (by decide) rfl ?_
      refine tw_goto C dX7_setNumber_34 (tgt := 3) (by decide) ?_
      refine TW.sS (S' := tw_uR S r (setN (tw_R S r) f ((be v i).take (k + 1)))) (by rw [tw_uR_uR, tq_uR_same, be_take (by omega), setN_snoc, List.length_take, be_len, Nat.min_eq_left (by omega)]) ?_
      exact ih (k + 1) (by omega)
  refine tw_iconst C dX7_setNumber_0 (v := nI 0) (by decide) ?_
  refine tw_istore (L' := [(5, .int (nI 0)), (0, .ref (tw_ad G r)), (1, .int (nI f)), (2, .long (lN v)), (4, .int (nI i))]) C N dX7_setNumber_1 (i := 5) (by decide) rfl ?_
  refine TW.sS (S' := tw_uR S r (setN (tw_R S r) f ((be v i).take 0))) (by simp [setN, tw_uR_self]) ?_
  exact loop i 0 (by omega)
end
section
theorem zz_last : True := trivial
end
