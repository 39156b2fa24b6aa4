section
-- ===== PART A: goes FIRST, ahead of the names: the tables' words, and 'selects' of the private methods out of them =====
/-- a private method of a class that the tables say can be made, by its rows of tables_1 -/
def lw_okq (q : MethodName × Nat) : Prop := (q.1.cls ≠ "java/lang/invoke/MethodHandle" ∧ q.1.cls ≠ "java/lang/invoke/VarHandle") ∧ Cond.instantiable q.1.cls q.2 ∈ tables_1 ∧ Cond.privateMethod q.1 ∈ tables_1 ∧ Cond.instanceMethod q.1 ∈ tables_1
theorem lw_p0 : lw_okq (⟨"FrameTalk$Program", "append", "(LFrameTalk$Node;)I"⟩, 1) := ⟨⟨by decide +kernel, by decide +kernel⟩, List.mem_of_getElem? (i := 33) (by decide +kernel), List.mem_of_getElem? (i := 222) (by decide +kernel), List.mem_of_getElem? (i := 223) (by decide +kernel)⟩
theorem lw_p1 : lw_okq (⟨"java/util/ArrayList", "add", "(Ljava/lang/Object;[Ljava/lang/Object;I)V"⟩, 3) := ⟨⟨by decide +kernel, by decide +kernel⟩, List.mem_of_getElem? (i := 39) (by decide +kernel), List.mem_of_getElem? (i := 230) (by decide +kernel), List.mem_of_getElem? (i := 231) (by decide +kernel)⟩
theorem lw_p2 : lw_okq (⟨"java/util/ArrayList", "grow", "()[Ljava/lang/Object;"⟩, 3) := ⟨⟨by decide +kernel, by decide +kernel⟩, List.mem_of_getElem? (i := 39) (by decide +kernel), List.mem_of_getElem? (i := 234) (by decide +kernel), List.mem_of_getElem? (i := 235) (by decide +kernel)⟩
theorem lw_p3 : lw_okq (⟨"java/util/ArrayList", "grow", "(I)[Ljava/lang/Object;"⟩, 3) := ⟨⟨by decide +kernel, by decide +kernel⟩, List.mem_of_getElem? (i := 39) (by decide +kernel), List.mem_of_getElem? (i := 238) (by decide +kernel), List.mem_of_getElem? (i := 239) (by decide +kernel)⟩
theorem lw_p4 : lw_okq (⟨"FrameTalk$Machine", "clearFault", "()V"⟩, 13) := ⟨⟨by decide +kernel, by decide +kernel⟩, List.mem_of_getElem? (i := 27) (by decide +kernel), List.mem_of_getElem? (i := 336) (by decide +kernel), List.mem_of_getElem? (i := 337) (by decide +kernel)⟩
theorem lw_p5 : lw_okq (⟨"FrameTalk$Machine", "failAt", "(II)LFrameTalk$Thing;"⟩, 13) := ⟨⟨by decide +kernel, by decide +kernel⟩, List.mem_of_getElem? (i := 27) (by decide +kernel), List.mem_of_getElem? (i := 344) (by decide +kernel), List.mem_of_getElem? (i := 345) (by decide +kernel)⟩
theorem lw_p6 : lw_okq (⟨"FrameTalk$Machine", "open", "(LFrameTalk$Node;)V"⟩, 13) := ⟨⟨by decide +kernel, by decide +kernel⟩, List.mem_of_getElem? (i := 27) (by decide +kernel), List.mem_of_getElem? (i := 348) (by decide +kernel), List.mem_of_getElem? (i := 349) (by decide +kernel)⟩
theorem lw_p7 : lw_okq (⟨"FrameTalk$Machine", "passFault", "(LFrameTalk$Frame;)V"⟩, 13) := ⟨⟨by decide +kernel, by decide +kernel⟩, List.mem_of_getElem? (i := 27) (by decide +kernel), List.mem_of_getElem? (i := 367) (by decide +kernel), List.mem_of_getElem? (i := 368) (by decide +kernel)⟩
theorem lw_p8 : lw_okq (⟨"FrameTalk$Machine", "takesFault", "(LFrameTalk$Frame;)Z"⟩, 13) := ⟨⟨by decide +kernel, by decide +kernel⟩, List.mem_of_getElem? (i := 27) (by decide +kernel), List.mem_of_getElem? (i := 371) (by decide +kernel), List.mem_of_getElem? (i := 372) (by decide +kernel)⟩
theorem lw_p9 : lw_okq (⟨"FrameTalk$Machine", "workPart", "(LFrameTalk$Frame;I)V"⟩, 13) := ⟨⟨by decide +kernel, by decide +kernel⟩, List.mem_of_getElem? (i := 27) (by decide +kernel), List.mem_of_getElem? (i := 421) (by decide +kernel), List.mem_of_getElem? (i := 422) (by decide +kernel)⟩
theorem lw_p10 : lw_okq (⟨"FrameTalk$Machine", "nextPart", "(LFrameTalk$Frame;)I"⟩, 13) := ⟨⟨by decide +kernel, by decide +kernel⟩, List.mem_of_getElem? (i := 27) (by decide +kernel), List.mem_of_getElem? (i := 426) (by decide +kernel), List.mem_of_getElem? (i := 427) (by decide +kernel)⟩
theorem lw_p11 : lw_okq (⟨"FrameTalk$Machine", "nextOfIf", "(LFrameTalk$Frame;)I"⟩, 13) := ⟨⟨by decide +kernel, by decide +kernel⟩, List.mem_of_getElem? (i := 27) (by decide +kernel), List.mem_of_getElem? (i := 430) (by decide +kernel), List.mem_of_getElem? (i := 431) (by decide +kernel)⟩
theorem lw_p12 : lw_okq (⟨"FrameTalk$Machine", "lacks", "(LFrameTalk$Frame;LFrameTalk$Thing;I)Z"⟩, 13) := ⟨⟨by decide +kernel, by decide +kernel⟩, List.mem_of_getElem? (i := 27) (by decide +kernel), List.mem_of_getElem? (i := 434) (by decide +kernel), List.mem_of_getElem? (i := 435) (by decide +kernel)⟩
theorem lw_p13 : lw_okq (⟨"FrameTalk$Machine", "nextOfTimes", "(LFrameTalk$Frame;)I"⟩, 13) := ⟨⟨by decide +kernel, by decide +kernel⟩, List.mem_of_getElem? (i := 27) (by decide +kernel), List.mem_of_getElem? (i := 442) (by decide +kernel), List.mem_of_getElem? (i := 443) (by decide +kernel)⟩
theorem lw_p14 : lw_okq (⟨"FrameTalk$Machine", "nextInOrder", "(LFrameTalk$Frame;)I"⟩, 13) := ⟨⟨by decide +kernel, by decide +kernel⟩, List.mem_of_getElem? (i := 27) (by decide +kernel), List.mem_of_getElem? (i := 446) (by decide +kernel), List.mem_of_getElem? (i := 447) (by decide +kernel)⟩
theorem lw_p15 : lw_okq (⟨"FrameTalk$Machine", "finish", "(LFrameTalk$Frame;)LFrameTalk$Thing;"⟩, 13) := ⟨⟨by decide +kernel, by decide +kernel⟩, List.mem_of_getElem? (i := 27) (by decide +kernel), List.mem_of_getElem? (i := 451) (by decide +kernel), List.mem_of_getElem? (i := 452) (by decide +kernel)⟩
def lw_privs_1 : List (MethodName × Nat) := [(⟨"FrameTalk$Program", "append", "(LFrameTalk$Node;)I"⟩, 1), (⟨"java/util/ArrayList", "add", "(Ljava/lang/Object;[Ljava/lang/Object;I)V"⟩, 3), (⟨"java/util/ArrayList", "grow", "()[Ljava/lang/Object;"⟩, 3), (⟨"java/util/ArrayList", "grow", "(I)[Ljava/lang/Object;"⟩, 3), (⟨"FrameTalk$Machine", "clearFault", "()V"⟩, 13), (⟨"FrameTalk$Machine", "failAt", "(II)LFrameTalk$Thing;"⟩, 13), (⟨"FrameTalk$Machine", "open", "(LFrameTalk$Node;)V"⟩, 13), (⟨"FrameTalk$Machine", "passFault", "(LFrameTalk$Frame;)V"⟩, 13), (⟨"FrameTalk$Machine", "takesFault", "(LFrameTalk$Frame;)Z"⟩, 13), (⟨"FrameTalk$Machine", "workPart", "(LFrameTalk$Frame;I)V"⟩, 13), (⟨"FrameTalk$Machine", "nextPart", "(LFrameTalk$Frame;)I"⟩, 13), (⟨"FrameTalk$Machine", "nextOfIf", "(LFrameTalk$Frame;)I"⟩, 13), (⟨"FrameTalk$Machine", "lacks", "(LFrameTalk$Frame;LFrameTalk$Thing;I)Z"⟩, 13), (⟨"FrameTalk$Machine", "nextOfTimes", "(LFrameTalk$Frame;)I"⟩, 13), (⟨"FrameTalk$Machine", "nextInOrder", "(LFrameTalk$Frame;)I"⟩, 13), (⟨"FrameTalk$Machine", "finish", "(LFrameTalk$Frame;)LFrameTalk$Thing;"⟩, 13)]
theorem lw_r1 : ∀ q ∈ lw_privs_1, lw_okq q := List.forall_mem_cons.mpr ⟨lw_p0, List.forall_mem_cons.mpr ⟨lw_p1, List.forall_mem_cons.mpr ⟨lw_p2, List.forall_mem_cons.mpr ⟨lw_p3, List.forall_mem_cons.mpr ⟨lw_p4, List.forall_mem_cons.mpr ⟨lw_p5, List.forall_mem_cons.mpr ⟨lw_p6, List.forall_mem_cons.mpr ⟨lw_p7, List.forall_mem_cons.mpr ⟨lw_p8, List.forall_mem_cons.mpr ⟨lw_p9, List.forall_mem_cons.mpr ⟨lw_p10, List.forall_mem_cons.mpr ⟨lw_p11, List.forall_mem_cons.mpr ⟨lw_p12, List.forall_mem_cons.mpr ⟨lw_p13, List.forall_mem_cons.mpr ⟨lw_p14, List.forall_mem_cons.mpr ⟨lw_p15, fun _ h => absurd h List.not_mem_nil⟩⟩⟩⟩⟩⟩⟩⟩⟩⟩⟩⟩⟩⟩⟩⟩
theorem lw_p16 : lw_okq (⟨"FrameTalk$Machine", "useSlot", "(LFrameTalk$Frame;)LFrameTalk$Thing;"⟩, 13) := ⟨⟨by decide +kernel, by decide +kernel⟩, List.mem_of_getElem? (i := 27) (by decide +kernel), List.mem_of_getElem? (i := 455) (by decide +kernel), List.mem_of_getElem? (i := 456) (by decide +kernel)⟩
theorem lw_p17 : lw_okq (⟨"FrameTalk$Machine", "isSlot", "(I)Z"⟩, 13) := ⟨⟨by decide +kernel, by decide +kernel⟩, List.mem_of_getElem? (i := 27) (by decide +kernel), List.mem_of_getElem? (i := 459) (by decide +kernel), List.mem_of_getElem? (i := 460) (by decide +kernel)⟩
theorem lw_p18 : lw_okq (⟨"FrameTalk$Machine", "field", "(LFrameTalk$Frame;)LFrameTalk$Thing;"⟩, 13) := ⟨⟨by decide +kernel, by decide +kernel⟩, List.mem_of_getElem? (i := 27) (by decide +kernel), List.mem_of_getElem? (i := 467) (by decide +kernel), List.mem_of_getElem? (i := 468) (by decide +kernel)⟩
theorem lw_p19 : lw_okq (⟨"FrameTalk$Machine", "store", "(LFrameTalk$Frame;)LFrameTalk$Thing;"⟩, 13) := ⟨⟨by decide +kernel, by decide +kernel⟩, List.mem_of_getElem? (i := 27) (by decide +kernel), List.mem_of_getElem? (i := 471) (by decide +kernel), List.mem_of_getElem? (i := 472) (by decide +kernel)⟩
theorem lw_p20 : lw_okq (⟨"FrameTalk$Machine", "side", "(LFrameTalk$Frame;)LFrameTalk$Thing;"⟩, 13) := ⟨⟨by decide +kernel, by decide +kernel⟩, List.mem_of_getElem? (i := 27) (by decide +kernel), List.mem_of_getElem? (i := 475) (by decide +kernel), List.mem_of_getElem? (i := 476) (by decide +kernel)⟩
theorem lw_p21 : lw_okq (⟨"FrameTalk$Machine", "send", "(LFrameTalk$Frame;)LFrameTalk$Thing;"⟩, 13) := ⟨⟨by decide +kernel, by decide +kernel⟩, List.mem_of_getElem? (i := 27) (by decide +kernel), List.mem_of_getElem? (i := 479) (by decide +kernel), List.mem_of_getElem? (i := 480) (by decide +kernel)⟩
theorem lw_p22 : lw_okq (⟨"FrameTalk$Machine", "reckon", "(LFrameTalk$Frame;ILFrameTalk$Thing;)LFrameTalk$Thing;"⟩, 13) := ⟨⟨by decide +kernel, by decide +kernel⟩, List.mem_of_getElem? (i := 27) (by decide +kernel), List.mem_of_getElem? (i := 483) (by decide +kernel), List.mem_of_getElem? (i := 484) (by decide +kernel)⟩
theorem lw_p23 : lw_okq (⟨"FrameTalk$Machine", "row", "(LFrameTalk$Frame;)LFrameTalk$Thing;"⟩, 13) := ⟨⟨by decide +kernel, by decide +kernel⟩, List.mem_of_getElem? (i := 27) (by decide +kernel), List.mem_of_getElem? (i := 487) (by decide +kernel), List.mem_of_getElem? (i := 488) (by decide +kernel)⟩
theorem lw_p24 : lw_okq (⟨"FrameTalk$Machine", "put", "(LFrameTalk$Frame;)LFrameTalk$Thing;"⟩, 13) := ⟨⟨by decide +kernel, by decide +kernel⟩, List.mem_of_getElem? (i := 27) (by decide +kernel), List.mem_of_getElem? (i := 505) (by decide +kernel), List.mem_of_getElem? (i := 506) (by decide +kernel)⟩
theorem lw_p25 : lw_okq (⟨"FrameTalk$Machine", "lacksPlace", "(LFrameTalk$Frame;)Z"⟩, 13) := ⟨⟨by decide +kernel, by decide +kernel⟩, List.mem_of_getElem? (i := 27) (by decide +kernel), List.mem_of_getElem? (i := 509) (by decide +kernel), List.mem_of_getElem? (i := 510) (by decide +kernel)⟩
theorem lw_p26 : lw_okq (⟨"FrameTalk$Machine", "at", "(LFrameTalk$Frame;)LFrameTalk$Thing;"⟩, 13) := ⟨⟨by decide +kernel, by decide +kernel⟩, List.mem_of_getElem? (i := 27) (by decide +kernel), List.mem_of_getElem? (i := 522) (by decide +kernel), List.mem_of_getElem? (i := 523) (by decide +kernel)⟩
theorem lw_p27 : lw_okq (⟨"FrameTalk$Machine", "size", "(LFrameTalk$Frame;)LFrameTalk$Thing;"⟩, 13) := ⟨⟨by decide +kernel, by decide +kernel⟩, List.mem_of_getElem? (i := 27) (by decide +kernel), List.mem_of_getElem? (i := 526) (by decide +kernel), List.mem_of_getElem? (i := 527) (by decide +kernel)⟩
theorem lw_p28 : lw_okq (⟨"FrameTalk$Machine", "hold", "(LFrameTalk$Frame;)LFrameTalk$Thing;"⟩, 13) := ⟨⟨by decide +kernel, by decide +kernel⟩, List.mem_of_getElem? (i := 27) (by decide +kernel), List.mem_of_getElem? (i := 530) (by decide +kernel), List.mem_of_getElem? (i := 531) (by decide +kernel)⟩
theorem lw_p29 : lw_okq (⟨"FrameTalk$Machine", "close", "(LFrameTalk$Frame;LFrameTalk$Thing;)V"⟩, 13) := ⟨⟨by decide +kernel, by decide +kernel⟩, List.mem_of_getElem? (i := 27) (by decide +kernel), List.mem_of_getElem? (i := 534) (by decide +kernel), List.mem_of_getElem? (i := 535) (by decide +kernel)⟩
theorem lw_p30 : lw_okq (⟨"FrameTalk$Thing", "placesOrNone", "()I"⟩, 7) := ⟨⟨by decide +kernel, by decide +kernel⟩, List.mem_of_getElem? (i := 383) (by decide +kernel), List.mem_of_getElem? (i := 570) (by decide +kernel), List.mem_of_getElem? (i := 571) (by decide +kernel)⟩
theorem lw_p31 : lw_okq (⟨"FrameTalk$Thing", "useOrNone", "()I"⟩, 7) := ⟨⟨by decide +kernel, by decide +kernel⟩, List.mem_of_getElem? (i := 383) (by decide +kernel), List.mem_of_getElem? (i := 577) (by decide +kernel), List.mem_of_getElem? (i := 578) (by decide +kernel)⟩
def lw_privs_2 : List (MethodName × Nat) := [(⟨"FrameTalk$Machine", "useSlot", "(LFrameTalk$Frame;)LFrameTalk$Thing;"⟩, 13), (⟨"FrameTalk$Machine", "isSlot", "(I)Z"⟩, 13), (⟨"FrameTalk$Machine", "field", "(LFrameTalk$Frame;)LFrameTalk$Thing;"⟩, 13), (⟨"FrameTalk$Machine", "store", "(LFrameTalk$Frame;)LFrameTalk$Thing;"⟩, 13), (⟨"FrameTalk$Machine", "side", "(LFrameTalk$Frame;)LFrameTalk$Thing;"⟩, 13), (⟨"FrameTalk$Machine", "send", "(LFrameTalk$Frame;)LFrameTalk$Thing;"⟩, 13), (⟨"FrameTalk$Machine", "reckon", "(LFrameTalk$Frame;ILFrameTalk$Thing;)LFrameTalk$Thing;"⟩, 13), (⟨"FrameTalk$Machine", "row", "(LFrameTalk$Frame;)LFrameTalk$Thing;"⟩, 13), (⟨"FrameTalk$Machine", "put", "(LFrameTalk$Frame;)LFrameTalk$Thing;"⟩, 13), (⟨"FrameTalk$Machine", "lacksPlace", "(LFrameTalk$Frame;)Z"⟩, 13), (⟨"FrameTalk$Machine", "at", "(LFrameTalk$Frame;)LFrameTalk$Thing;"⟩, 13), (⟨"FrameTalk$Machine", "size", "(LFrameTalk$Frame;)LFrameTalk$Thing;"⟩, 13), (⟨"FrameTalk$Machine", "hold", "(LFrameTalk$Frame;)LFrameTalk$Thing;"⟩, 13), (⟨"FrameTalk$Machine", "close", "(LFrameTalk$Frame;LFrameTalk$Thing;)V"⟩, 13), (⟨"FrameTalk$Thing", "placesOrNone", "()I"⟩, 7), (⟨"FrameTalk$Thing", "useOrNone", "()I"⟩, 7)]
theorem lw_r2 : ∀ q ∈ lw_privs_2, lw_okq q := List.forall_mem_cons.mpr ⟨lw_p16, List.forall_mem_cons.mpr ⟨lw_p17, List.forall_mem_cons.mpr ⟨lw_p18, List.forall_mem_cons.mpr ⟨lw_p19, List.forall_mem_cons.mpr ⟨lw_p20, List.forall_mem_cons.mpr ⟨lw_p21, List.forall_mem_cons.mpr ⟨lw_p22, List.forall_mem_cons.mpr ⟨lw_p23, List.forall_mem_cons.mpr ⟨lw_p24, List.forall_mem_cons.mpr ⟨lw_p25, List.forall_mem_cons.mpr ⟨lw_p26, List.forall_mem_cons.mpr ⟨lw_p27, List.forall_mem_cons.mpr ⟨lw_p28, List.forall_mem_cons.mpr ⟨lw_p29, List.forall_mem_cons.mpr ⟨lw_p30, List.forall_mem_cons.mpr ⟨lw_p31, fun _ h => absurd h List.not_mem_nil⟩⟩⟩⟩⟩⟩⟩⟩⟩⟩⟩⟩⟩⟩⟩⟩
theorem lw_p32 : lw_okq (⟨"FrameTalkModel", "join", "(III)V"⟩, 28) := ⟨⟨by decide +kernel, by decide +kernel⟩, List.mem_of_getElem? (i := 609) (by decide +kernel), List.mem_of_getElem? (i := 711) (by decide +kernel), List.mem_of_getElem? (i := 712) (by decide +kernel)⟩
theorem lw_p33 : lw_okq (⟨"FrameTalkModel", "isNode", "(II)Z"⟩, 28) := ⟨⟨by decide +kernel, by decide +kernel⟩, List.mem_of_getElem? (i := 609) (by decide +kernel), List.mem_of_getElem? (i := 715) (by decide +kernel), List.mem_of_getElem? (i := 716) (by decide +kernel)⟩
theorem lw_p34 : lw_okq (⟨"FrameTalkModel", "enter", "(I)V"⟩, 28) := ⟨⟨by decide +kernel, by decide +kernel⟩, List.mem_of_getElem? (i := 609) (by decide +kernel), List.mem_of_getElem? (i := 727) (by decide +kernel), List.mem_of_getElem? (i := 728) (by decide +kernel)⟩
theorem lw_p35 : lw_okq (⟨"FrameTalkModel", "fail", "(II)I"⟩, 28) := ⟨⟨by decide +kernel, by decide +kernel⟩, List.mem_of_getElem? (i := 609) (by decide +kernel), List.mem_of_getElem? (i := 731) (by decide +kernel), List.mem_of_getElem? (i := 732) (by decide +kernel)⟩
theorem lw_p36 : lw_okq (⟨"FrameTalkModel", "outward", "(I)V"⟩, 28) := ⟨⟨by decide +kernel, by decide +kernel⟩, List.mem_of_getElem? (i := 609) (by decide +kernel), List.mem_of_getElem? (i := 735) (by decide +kernel), List.mem_of_getElem? (i := 736) (by decide +kernel)⟩
theorem lw_p37 : lw_okq (⟨"FrameTalkModel", "number", "(II)I"⟩, 28) := ⟨⟨by decide +kernel, by decide +kernel⟩, List.mem_of_getElem? (i := 609) (by decide +kernel), List.mem_of_getElem? (i := 739) (by decide +kernel), List.mem_of_getElem? (i := 740) (by decide +kernel)⟩
theorem lw_p38 : lw_okq (⟨"FrameTalkModel", "num", "(J)I"⟩, 28) := ⟨⟨by decide +kernel, by decide +kernel⟩, List.mem_of_getElem? (i := 609) (by decide +kernel), List.mem_of_getElem? (i := 743) (by decide +kernel), List.mem_of_getElem? (i := 744) (by decide +kernel)⟩
theorem lw_p39 : lw_okq (⟨"FrameTalkModel", "make", "(IJII)I"⟩, 28) := ⟨⟨by decide +kernel, by decide +kernel⟩, List.mem_of_getElem? (i := 609) (by decide +kernel), List.mem_of_getElem? (i := 747) (by decide +kernel), List.mem_of_getElem? (i := 748) (by decide +kernel)⟩
theorem lw_p40 : lw_okq (⟨"FrameTalkModel", "begin", "(II)V"⟩, 28) := ⟨⟨by decide +kernel, by decide +kernel⟩, List.mem_of_getElem? (i := 609) (by decide +kernel), List.mem_of_getElem? (i := 751) (by decide +kernel), List.mem_of_getElem? (i := 752) (by decide +kernel)⟩
theorem lw_p41 : lw_okq (⟨"FrameTalkModel", "forward", "(I)V"⟩, 28) := ⟨⟨by decide +kernel, by decide +kernel⟩, List.mem_of_getElem? (i := 609) (by decide +kernel), List.mem_of_getElem? (i := 755) (by decide +kernel), List.mem_of_getElem? (i := 756) (by decide +kernel)⟩
theorem lw_p42 : lw_okq (⟨"FrameTalkModel", "part0", "(I)V"⟩, 28) := ⟨⟨by decide +kernel, by decide +kernel⟩, List.mem_of_getElem? (i := 609) (by decide +kernel), List.mem_of_getElem? (i := 759) (by decide +kernel), List.mem_of_getElem? (i := 760) (by decide +kernel)⟩
theorem lw_p43 : lw_okq (⟨"FrameTalkModel", "choose", "(I)V"⟩, 28) := ⟨⟨by decide +kernel, by decide +kernel⟩, List.mem_of_getElem? (i := 609) (by decide +kernel), List.mem_of_getElem? (i := 763) (by decide +kernel), List.mem_of_getElem? (i := 764) (by decide +kernel)⟩
theorem lw_p44 : lw_okq (⟨"FrameTalkModel", "is", "(III)Z"⟩, 28) := ⟨⟨by decide +kernel, by decide +kernel⟩, List.mem_of_getElem? (i := 609) (by decide +kernel), List.mem_of_getElem? (i := 767) (by decide +kernel), List.mem_of_getElem? (i := 768) (by decide +kernel)⟩
theorem lw_p45 : lw_okq (⟨"FrameTalkModel", "again", "(I)V"⟩, 28) := ⟨⟨by decide +kernel, by decide +kernel⟩, List.mem_of_getElem? (i := 609) (by decide +kernel), List.mem_of_getElem? (i := 771) (by decide +kernel), List.mem_of_getElem? (i := 772) (by decide +kernel)⟩
theorem lw_p46 : lw_okq (⟨"FrameTalkModel", "eager", "(I)V"⟩, 28) := ⟨⟨by decide +kernel, by decide +kernel⟩, List.mem_of_getElem? (i := 609) (by decide +kernel), List.mem_of_getElem? (i := 775) (by decide +kernel), List.mem_of_getElem? (i := 776) (by decide +kernel)⟩
theorem lw_p47 : lw_okq (⟨"FrameTalkModel", "act", "(IIII)I"⟩, 28) := ⟨⟨by decide +kernel, by decide +kernel⟩, List.mem_of_getElem? (i := 609) (by decide +kernel), List.mem_of_getElem? (i := 779) (by decide +kernel), List.mem_of_getElem? (i := 780) (by decide +kernel)⟩
def lw_privs_3 : List (MethodName × Nat) := [(⟨"FrameTalkModel", "join", "(III)V"⟩, 28), (⟨"FrameTalkModel", "isNode", "(II)Z"⟩, 28), (⟨"FrameTalkModel", "enter", "(I)V"⟩, 28), (⟨"FrameTalkModel", "fail", "(II)I"⟩, 28), (⟨"FrameTalkModel", "outward", "(I)V"⟩, 28), (⟨"FrameTalkModel", "number", "(II)I"⟩, 28), (⟨"FrameTalkModel", "num", "(J)I"⟩, 28), (⟨"FrameTalkModel", "make", "(IJII)I"⟩, 28), (⟨"FrameTalkModel", "begin", "(II)V"⟩, 28), (⟨"FrameTalkModel", "forward", "(I)V"⟩, 28), (⟨"FrameTalkModel", "part0", "(I)V"⟩, 28), (⟨"FrameTalkModel", "choose", "(I)V"⟩, 28), (⟨"FrameTalkModel", "is", "(III)Z"⟩, 28), (⟨"FrameTalkModel", "again", "(I)V"⟩, 28), (⟨"FrameTalkModel", "eager", "(I)V"⟩, 28), (⟨"FrameTalkModel", "act", "(IIII)I"⟩, 28)]
theorem lw_r3 : ∀ q ∈ lw_privs_3, lw_okq q := List.forall_mem_cons.mpr ⟨lw_p32, List.forall_mem_cons.mpr ⟨lw_p33, List.forall_mem_cons.mpr ⟨lw_p34, List.forall_mem_cons.mpr ⟨lw_p35, List.forall_mem_cons.mpr ⟨lw_p36, List.forall_mem_cons.mpr ⟨lw_p37, List.forall_mem_cons.mpr ⟨lw_p38, List.forall_mem_cons.mpr ⟨lw_p39, List.forall_mem_cons.mpr ⟨lw_p40, List.forall_mem_cons.mpr ⟨lw_p41, List.forall_mem_cons.mpr ⟨lw_p42, List.forall_mem_cons.mpr ⟨lw_p43, List.forall_mem_cons.mpr ⟨lw_p44, List.forall_mem_cons.mpr ⟨lw_p45, List.forall_mem_cons.mpr ⟨lw_p46, List.forall_mem_cons.mpr ⟨lw_p47, fun _ h => absurd h List.not_mem_nil⟩⟩⟩⟩⟩⟩⟩⟩⟩⟩⟩⟩⟩⟩⟩⟩
theorem lw_p48 : lw_okq (⟨"FrameTalkModel", "simple", "(IIII)I"⟩, 28) := ⟨⟨by decide +kernel, by decide +kernel⟩, List.mem_of_getElem? (i := 609) (by decide +kernel), List.mem_of_getElem? (i := 783) (by decide +kernel), List.mem_of_getElem? (i := 784) (by decide +kernel)⟩
theorem lw_p49 : lw_okq (⟨"FrameTalkModel", "noSlot", "(II)Z"⟩, 28) := ⟨⟨by decide +kernel, by decide +kernel⟩, List.mem_of_getElem? (i := 609) (by decide +kernel), List.mem_of_getElem? (i := 787) (by decide +kernel), List.mem_of_getElem? (i := 788) (by decide +kernel)⟩
theorem lw_p50 : lw_okq (⟨"FrameTalkModel", "send", "(III)I"⟩, 28) := ⟨⟨by decide +kernel, by decide +kernel⟩, List.mem_of_getElem? (i := 609) (by decide +kernel), List.mem_of_getElem? (i := 791) (by decide +kernel), List.mem_of_getElem? (i := 792) (by decide +kernel)⟩
theorem lw_p51 : lw_okq (⟨"FrameTalkModel", "reckon", "(IIJJ)I"⟩, 28) := ⟨⟨by decide +kernel, by decide +kernel⟩, List.mem_of_getElem? (i := 609) (by decide +kernel), List.mem_of_getElem? (i := 795) (by decide +kernel), List.mem_of_getElem? (i := 796) (by decide +kernel)⟩
theorem lw_p52 : lw_okq (⟨"FrameTalkModel", "larger", "(IIII)I"⟩, 28) := ⟨⟨by decide +kernel, by decide +kernel⟩, List.mem_of_getElem? (i := 609) (by decide +kernel), List.mem_of_getElem? (i := 800) (by decide +kernel), List.mem_of_getElem? (i := 801) (by decide +kernel)⟩
theorem lw_p53 : lw_okq (⟨"FrameTalkModel", "newRow", "(II)I"⟩, 28) := ⟨⟨by decide +kernel, by decide +kernel⟩, List.mem_of_getElem? (i := 609) (by decide +kernel), List.mem_of_getElem? (i := 804) (by decide +kernel), List.mem_of_getElem? (i := 805) (by decide +kernel)⟩
theorem lw_p54 : lw_okq (⟨"FrameTalkModel", "inRow", "(IIII)I"⟩, 28) := ⟨⟨by decide +kernel, by decide +kernel⟩, List.mem_of_getElem? (i := 609) (by decide +kernel), List.mem_of_getElem? (i := 808) (by decide +kernel), List.mem_of_getElem? (i := 809) (by decide +kernel)⟩
theorem lw_p55 : lw_okq (⟨"FrameTalkModel", "thingAt", "(I)I"⟩, 28) := ⟨⟨by decide +kernel, by decide +kernel⟩, List.mem_of_getElem? (i := 609) (by decide +kernel), List.mem_of_getElem? (i := 816) (by decide +kernel), List.mem_of_getElem? (i := 817) (by decide +kernel)⟩
def lw_privs_4 : List (MethodName × Nat) := [(⟨"FrameTalkModel", "simple", "(IIII)I"⟩, 28), (⟨"FrameTalkModel", "noSlot", "(II)Z"⟩, 28), (⟨"FrameTalkModel", "send", "(III)I"⟩, 28), (⟨"FrameTalkModel", "reckon", "(IIJJ)I"⟩, 28), (⟨"FrameTalkModel", "larger", "(IIII)I"⟩, 28), (⟨"FrameTalkModel", "newRow", "(II)I"⟩, 28), (⟨"FrameTalkModel", "inRow", "(IIII)I"⟩, 28), (⟨"FrameTalkModel", "thingAt", "(I)I"⟩, 28)]
theorem lw_r4 : ∀ q ∈ lw_privs_4, lw_okq q := List.forall_mem_cons.mpr ⟨lw_p48, List.forall_mem_cons.mpr ⟨lw_p49, List.forall_mem_cons.mpr ⟨lw_p50, List.forall_mem_cons.mpr ⟨lw_p51, List.forall_mem_cons.mpr ⟨lw_p52, List.forall_mem_cons.mpr ⟨lw_p53, List.forall_mem_cons.mpr ⟨lw_p54, List.forall_mem_cons.mpr ⟨lw_p55, fun _ h => absurd h List.not_mem_nil⟩⟩⟩⟩⟩⟩⟩⟩
def lw_privs : List (MethodName × Nat) := lw_privs_1 ++ (lw_privs_2 ++ (lw_privs_3 ++ (lw_privs_4)))
def lw_tbl : List Cond := k2_sels lw_privs ++ tables_1
theorem lw_privs_ok : ∀ q ∈ lw_privs, lw_okq q := by
  show ∀ q ∈ lw_privs_1 ++ (lw_privs_2 ++ (lw_privs_3 ++ (lw_privs_4))), lw_okq q
  exact List.forall_mem_append.mpr ⟨lw_r1, List.forall_mem_append.mpr ⟨lw_r2, List.forall_mem_append.mpr ⟨lw_r3, lw_r4⟩⟩⟩
end
section
def RX0 : String := "FrameTalk$Frame"
def TX0 : u_T := fun k => match k with
  | 0 => ("FrameTalk$Frame", "outer", "LFrameTalk$Frame;", true)
  | 1 => ("FrameTalk$Frame", "depth", "I", true)
  | 2 => ("FrameTalk$Frame", "inner", "LFrameTalk$Frame;", false)
  | 3 => ("FrameTalk$Frame", "node", "LFrameTalk$Node;", false)
  | 4 => ("FrameTalk$Frame", "working", "I", false)
  | 5 => ("FrameTalk$Frame", "a", "LFrameTalk$Thing;", false)
  | 6 => ("FrameTalk$Frame", "b", "LFrameTalk$Thing;", false)
  | 7 => ("FrameTalk$Frame", "c", "LFrameTalk$Thing;", false)
  | 8 => ("FrameTalk$Frame", "latest", "LFrameTalk$Thing;", false)
  | _ => ("FrameTalk$Frame", "left", "J", false)
def tyX0 : Nat → FieldType := fun k => match k with
  | 0 => .object "FrameTalk$Frame"
  | 1 => .int
  | 2 => .object "FrameTalk$Frame"
  | 3 => .object "FrameTalk$Node"
  | 4 => .int
  | 5 => .object "FrameTalk$Thing"
  | 6 => .object "FrameTalk$Thing"
  | 7 => .object "FrameTalk$Thing"
  | 8 => .object "FrameTalk$Thing"
  | _ => .long
abbrev wsX00 : List Cond := u_ws RX0 TX0 10
theorem nmX0 : ∀ a, a < 10 → ∀ b, b < 10 → a ≠ b → (TX0 a).2.1 ≠ (TX0 b).2.1 := by decide +kernel
theorem tyX0_ok : ∀ k, k < 10 → parseFieldDescriptor (TX0 k).2.2.1 = some (tyX0 k) := by decide +kernel
abbrev cX0_init : ByteArray := prog_2_method_1_code
def yX0_init : MethodName := ⟨RX0, "<init>", "(LFrameTalk$Frame;I)V"⟩
abbrev cX0_within : ByteArray := prog_2_method_2_code
def yX0_within : MethodName := ⟨RX0, "within", "()LFrameTalk$Frame;"⟩
abbrev cX0_begin : ByteArray := prog_2_method_3_code
def yX0_begin : MethodName := ⟨RX0, "begin", "(LFrameTalk$Node;)V"⟩
abbrev cX0_receive : ByteArray := prog_2_method_4_code
def yX0_receive : MethodName := ⟨RX0, "receive", "(LFrameTalk$Thing;)V"⟩
def RX1 : String := "FrameTalk$Machine"
def TX1 : u_T := fun k => match k with
  | 0 => ("FrameTalk$Machine", "program", "LFrameTalk$Program;", true)
  | 1 => ("FrameTalk$Machine", "maker", "LFrameTalk$Maker;", true)
  | 2 => ("FrameTalk$Machine", "slots", "[LFrameTalk$Thing;", true)
  | 3 => ("FrameTalk$Machine", "outermost", "LFrameTalk$Frame;", true)
  | 4 => ("FrameTalk$Machine", "top", "LFrameTalk$Frame;", false)
  | 5 => ("FrameTalk$Machine", "held", "LFrameTalk$Thing;", false)
  | 6 => ("FrameTalk$Machine", "gave", "LFrameTalk$Thing;", false)
  | 7 => ("FrameTalk$Machine", "stepsUsedEver", "I", false)
  | 8 => ("FrameTalk$Machine", "stepsAllowed", "I", false)
  | 9 => ("FrameTalk$Machine", "spent", "Z", false)
  | 10 => ("FrameTalk$Machine", "stepsTaken", "I", false)
  | 11 => ("FrameTalk$Machine", "faultKind", "I", false)
  | _ => ("FrameTalk$Machine", "faultAt", "I", false)
def tyX1 : Nat → FieldType := fun k => match k with
  | 0 => .object "FrameTalk$Program"
  | 1 => .object "FrameTalk$Maker"
  | 2 => .array (.object "FrameTalk$Thing")
  | 3 => .object "FrameTalk$Frame"
  | 4 => .object "FrameTalk$Frame"
  | 5 => .object "FrameTalk$Thing"
  | 6 => .object "FrameTalk$Thing"
  | 7 => .int
  | 8 => .int
  | 9 => .boolean
  | 10 => .int
  | 11 => .int
  | _ => .int
abbrev wsX10 : List Cond := u_ws RX1 TX1 13
theorem nmX1 : ∀ a, a < 13 → ∀ b, b < 13 → a ≠ b → (TX1 a).2.1 ≠ (TX1 b).2.1 := by decide +kernel
theorem tyX1_ok : ∀ k, k < 13 → parseFieldDescriptor (TX1 k).2.2.1 = some (tyX1 k) := by decide +kernel
abbrev cX1_init : ByteArray := prog_3_method_1_code
def yX1_init : MethodName := ⟨RX1, "<init>", "()V"⟩
abbrev cX1_canSee : ByteArray := prog_3_method_2_code
def yX1_canSee : MethodName := ⟨RX1, "canSee", "(I)Z"⟩
abbrev cX1_seenAt : ByteArray := prog_3_method_3_code
def yX1_seenAt : MethodName := ⟨RX1, "seenAt", "(I)LFrameTalk$Thing;"⟩
abbrev cX1_forget : ByteArray := prog_3_method_4_code
def yX1_forget : MethodName := ⟨RX1, "forget", "()V"⟩
abbrev cX1_begin : ByteArray := prog_3_method_5_code
def yX1_begin : MethodName := ⟨RX1, "begin", "(LFrameTalk$Node;I)V"⟩
abbrev cX1_isAtWork : ByteArray := prog_3_method_6_code
def yX1_isAtWork : MethodName := ⟨RX1, "isAtWork", "()Z"⟩
abbrev cX1_takeTurn : ByteArray := prog_3_method_7_code
def yX1_takeTurn : MethodName := ⟨RX1, "takeTurn", "()V"⟩
abbrev cX1_end : ByteArray := prog_3_method_8_code
def yX1_end : MethodName := ⟨RX1, "end", "()I"⟩
abbrev cX1_open : ByteArray := prog_3_method_9_code
def yX1_open : MethodName := ⟨RX1, "open", "(LFrameTalk$Node;)V"⟩
abbrev cX1_close : ByteArray := prog_3_method_10_code
def yX1_close : MethodName := ⟨RX1, "close", "(LFrameTalk$Frame;LFrameTalk$Thing;)V"⟩
abbrev cX1_workPart : ByteArray := prog_3_method_11_code
def yX1_workPart : MethodName := ⟨RX1, "workPart", "(LFrameTalk$Frame;I)V"⟩
abbrev cX1_nextPart : ByteArray := prog_3_method_12_code
def yX1_nextPart : MethodName := ⟨RX1, "nextPart", "(LFrameTalk$Frame;)I"⟩
abbrev cX1_nextInOrder : ByteArray := prog_3_method_13_code
def yX1_nextInOrder : MethodName := ⟨RX1, "nextInOrder", "(LFrameTalk$Frame;)I"⟩
abbrev cX1_nextOfIf : ByteArray := prog_3_method_14_code
def yX1_nextOfIf : MethodName := ⟨RX1, "nextOfIf", "(LFrameTalk$Frame;)I"⟩
abbrev cX1_nextOfTimes : ByteArray := prog_3_method_15_code
def yX1_nextOfTimes : MethodName := ⟨RX1, "nextOfTimes", "(LFrameTalk$Frame;)I"⟩
abbrev cX1_passFault : ByteArray := prog_3_method_16_code
def yX1_passFault : MethodName := ⟨RX1, "passFault", "(LFrameTalk$Frame;)V"⟩
abbrev cX1_takesFault : ByteArray := prog_3_method_17_code
def yX1_takesFault : MethodName := ⟨RX1, "takesFault", "(LFrameTalk$Frame;)Z"⟩
abbrev cX1_clearFault : ByteArray := prog_3_method_18_code
def yX1_clearFault : MethodName := ⟨RX1, "clearFault", "()V"⟩
abbrev cX1_failAt : ByteArray := prog_3_method_19_code
def yX1_failAt : MethodName := ⟨RX1, "failAt", "(II)LFrameTalk$Thing;"⟩
abbrev cX1_lacks : ByteArray := prog_3_method_20_code
def yX1_lacks : MethodName := ⟨RX1, "lacks", "(LFrameTalk$Frame;LFrameTalk$Thing;I)Z"⟩
abbrev cX1_finish : ByteArray := prog_3_method_21_code
def yX1_finish : MethodName := ⟨RX1, "finish", "(LFrameTalk$Frame;)LFrameTalk$Thing;"⟩
abbrev cX1_isSlot : ByteArray := prog_3_method_22_code
def yX1_isSlot : MethodName := ⟨RX1, "isSlot", "(I)Z"⟩
abbrev cX1_useSlot : ByteArray := prog_3_method_23_code
def yX1_useSlot : MethodName := ⟨RX1, "useSlot", "(LFrameTalk$Frame;)LFrameTalk$Thing;"⟩
abbrev cX1_field : ByteArray := prog_3_method_24_code
def yX1_field : MethodName := ⟨RX1, "field", "(LFrameTalk$Frame;)LFrameTalk$Thing;"⟩
abbrev cX1_store : ByteArray := prog_3_method_25_code
def yX1_store : MethodName := ⟨RX1, "store", "(LFrameTalk$Frame;)LFrameTalk$Thing;"⟩
abbrev cX1_side : ByteArray := prog_3_method_26_code
def yX1_side : MethodName := ⟨RX1, "side", "(LFrameTalk$Frame;)LFrameTalk$Thing;"⟩
abbrev cX1_send : ByteArray := prog_3_method_27_code
def yX1_send : MethodName := ⟨RX1, "send", "(LFrameTalk$Frame;)LFrameTalk$Thing;"⟩
abbrev cX1_reckon : ByteArray := prog_3_method_28_code
def yX1_reckon : MethodName := ⟨RX1, "reckon", "(LFrameTalk$Frame;ILFrameTalk$Thing;)LFrameTalk$Thing;"⟩
abbrev cX1_row : ByteArray := prog_3_method_29_code
def yX1_row : MethodName := ⟨RX1, "row", "(LFrameTalk$Frame;)LFrameTalk$Thing;"⟩
abbrev cX1_lacksPlace : ByteArray := prog_3_method_30_code
def yX1_lacksPlace : MethodName := ⟨RX1, "lacksPlace", "(LFrameTalk$Frame;)Z"⟩
abbrev cX1_put : ByteArray := prog_3_method_31_code
def yX1_put : MethodName := ⟨RX1, "put", "(LFrameTalk$Frame;)LFrameTalk$Thing;"⟩
abbrev cX1_at : ByteArray := prog_3_method_32_code
def yX1_at : MethodName := ⟨RX1, "at", "(LFrameTalk$Frame;)LFrameTalk$Thing;"⟩
abbrev cX1_size : ByteArray := prog_3_method_33_code
def yX1_size : MethodName := ⟨RX1, "size", "(LFrameTalk$Frame;)LFrameTalk$Thing;"⟩
abbrev cX1_hold : ByteArray := prog_3_method_34_code
def yX1_hold : MethodName := ⟨RX1, "hold", "(LFrameTalk$Frame;)LFrameTalk$Thing;"⟩
def RX2 : String := "FrameTalk$Maker"
def TX2 : u_T := fun k => match k with
  | 0 => ("FrameTalk$Maker", "made", "I", false)
  | _ => ("FrameTalk$Maker", "placesUsed", "I", false)
def tyX2 : Nat → FieldType := fun k => match k with
  | 0 => .int
  | _ => .int
abbrev wsX20 : List Cond := u_ws RX2 TX2 2
theorem nmX2 : ∀ a, a < 2 → ∀ b, b < 2 → a ≠ b → (TX2 a).2.1 ≠ (TX2 b).2.1 := by decide +kernel
theorem tyX2_ok : ∀ k, k < 2 → parseFieldDescriptor (TX2 k).2.2.1 = some (tyX2 k) := by decide +kernel
abbrev cX2_init : ByteArray := prog_4_method_1_code
def yX2_init : MethodName := ⟨RX2, "<init>", "()V"⟩
abbrev cX2_withValue : ByteArray := prog_4_method_2_code
def yX2_withValue : MethodName := ⟨RX2, "withValue", "(IJ)LFrameTalk$Thing;"⟩
abbrev cX2_withFields : ByteArray := prog_4_method_3_code
def yX2_withFields : MethodName := ⟨RX2, "withFields", "(ILFrameTalk$Thing;LFrameTalk$Thing;)LFrameTalk$Thing;"⟩
abbrev cX2_hasRoomFor : ByteArray := prog_4_method_4_code
def yX2_hasRoomFor : MethodName := ⟨RX2, "hasRoomFor", "(I)Z"⟩
abbrev cX2_row : ByteArray := prog_4_method_5_code
def yX2_row : MethodName := ⟨RX2, "row", "(II)LFrameTalk$Thing;"⟩
abbrev cX2_rowWithoutPlaces : ByteArray := prog_4_method_6_code
def yX2_rowWithoutPlaces : MethodName := ⟨RX2, "rowWithoutPlaces", "()LFrameTalk$Thing;"⟩
def RX3 : String := "FrameTalk$Node"
def TX3 : u_T := fun k => match k with
  | 0 => ("FrameTalk$Node", "number", "I", true)
  | 1 => ("FrameTalk$Node", "op", "I", true)
  | 2 => ("FrameTalk$Node", "literal", "J", true)
  | 3 => ("FrameTalk$Node", "a", "I", false)
  | 4 => ("FrameTalk$Node", "b", "I", false)
  | _ => ("FrameTalk$Node", "c", "I", false)
def tyX3 : Nat → FieldType := fun k => match k with
  | 0 => .int
  | 1 => .int
  | 2 => .long
  | 3 => .int
  | 4 => .int
  | _ => .int
abbrev wsX30 : List Cond := u_ws RX3 TX3 6
theorem nmX3 : ∀ a, a < 6 → ∀ b, b < 6 → a ≠ b → (TX3 a).2.1 ≠ (TX3 b).2.1 := by decide +kernel
theorem tyX3_ok : ∀ k, k < 6 → parseFieldDescriptor (TX3 k).2.2.1 = some (tyX3 k) := by decide +kernel
abbrev cX3_init : ByteArray := prog_5_method_1_code
def yX3_init : MethodName := ⟨RX3, "<init>", "(IIJ)V"⟩
abbrev cX3_get : ByteArray := prog_5_method_2_code
def yX3_get : MethodName := ⟨RX3, "get", "(I)I"⟩
abbrev cX3_set : ByteArray := prog_5_method_3_code
def yX3_set : MethodName := ⟨RX3, "set", "(II)V"⟩
abbrev cX3_works : ByteArray := prog_5_method_4_code
def yX3_works : MethodName := ⟨RX3, "works", "(I)Z"⟩
def RX4 : String := "FrameTalk$Program"
def TX4 : u_T := fun k => match k with
  | _ => ("FrameTalk$Program", "nodes", "Ljava/util/ArrayList;", true)
def tyX4 : Nat → FieldType := fun k => match k with
  | _ => .object "java/util/ArrayList"
abbrev wsX40 : List Cond := u_ws RX4 TX4 1
theorem nmX4 : ∀ a, a < 1 → ∀ b, b < 1 → a ≠ b → (TX4 a).2.1 ≠ (TX4 b).2.1 := by decide +kernel
theorem tyX4_ok : ∀ k, k < 1 → parseFieldDescriptor (TX4 k).2.2.1 = some (tyX4 k) := by decide +kernel
abbrev cX4_init : ByteArray := prog_6_method_1_code
def yX4_init : MethodName := ⟨RX4, "<init>", "()V"⟩
abbrev cX4_at : ByteArray := prog_6_method_2_code
def yX4_at : MethodName := ⟨RX4, "at", "(I)LFrameTalk$Node;"⟩
abbrev cX4_addLiteral : ByteArray := prog_6_method_3_code
def yX4_addLiteral : MethodName := ⟨RX4, "addLiteral", "(J)I"⟩
abbrev cX4_add : ByteArray := prog_6_method_4_code
def yX4_add : MethodName := ⟨RX4, "add", "(IIII)I"⟩
abbrev cX4_setPart : ByteArray := prog_6_method_5_code
def yX4_setPart : MethodName := ⟨RX4, "setPart", "(LFrameTalk$Node;II)V"⟩
abbrev cX4_clear : ByteArray := prog_6_method_6_code
def yX4_clear : MethodName := ⟨RX4, "clear", "()V"⟩
abbrev cX4_append : ByteArray := prog_6_method_7_code
def yX4_append : MethodName := ⟨RX4, "append", "(LFrameTalk$Node;)I"⟩
def RX5 : String := "FrameTalk$Thing"
def TX5 : u_T := fun k => match k with
  | 0 => ("FrameTalk$Thing", "number", "I", true)
  | 1 => ("FrameTalk$Thing", "kind", "I", true)
  | 2 => ("FrameTalk$Thing", "value", "J", false)
  | 3 => ("FrameTalk$Thing", "first", "LFrameTalk$Thing;", false)
  | 4 => ("FrameTalk$Thing", "second", "LFrameTalk$Thing;", false)
  | 5 => ("FrameTalk$Thing", "use", "I", false)
  | _ => ("FrameTalk$Thing", "places", "[LFrameTalk$Thing;", false)
def tyX5 : Nat → FieldType := fun k => match k with
  | 0 => .int
  | 1 => .int
  | 2 => .long
  | 3 => .object "FrameTalk$Thing"
  | 4 => .object "FrameTalk$Thing"
  | 5 => .int
  | _ => .array (.object "FrameTalk$Thing")
abbrev wsX50 : List Cond := u_ws RX5 TX5 7
theorem nmX5 : ∀ a, a < 7 → ∀ b, b < 7 → a ≠ b → (TX5 a).2.1 ≠ (TX5 b).2.1 := by decide +kernel
theorem tyX5_ok : ∀ k, k < 7 → parseFieldDescriptor (TX5 k).2.2.1 = some (tyX5 k) := by decide +kernel
abbrev cX5_init : ByteArray := prog_7_method_1_code
def yX5_init : MethodName := ⟨RX5, "<init>", "(II)V"⟩
abbrev cX5_isA : ByteArray := prog_7_method_2_code
def yX5_isA : MethodName := ⟨RX5, "isA", "(I)Z"⟩
abbrev cX5_hasValue : ByteArray := prog_7_method_3_code
def yX5_hasValue : MethodName := ⟨RX5, "hasValue", "()Z"⟩
abbrev cX5_hasPlace : ByteArray := prog_7_method_4_code
def yX5_hasPlace : MethodName := ⟨RX5, "hasPlace", "(I)Z"⟩
abbrev cX5_isRowFor : ByteArray := prog_7_method_5_code
def yX5_isRowFor : MethodName := ⟨RX5, "isRowFor", "(LFrameTalk$Thing;)Z"⟩
abbrev cX5_tell : ByteArray := prog_7_method_6_code
def yX5_tell : MethodName := ⟨RX5, "tell", "(I)I"⟩
abbrev cX5_placesOrNone : ByteArray := prog_7_method_7_code
def yX5_placesOrNone : MethodName := ⟨RX5, "placesOrNone", "()I"⟩
abbrev cX5_useOrNone : ByteArray := prog_7_method_8_code
def yX5_useOrNone : MethodName := ⟨RX5, "useOrNone", "()I"⟩
abbrev cX5_numberOf : ByteArray := prog_7_method_9_code
def yX5_numberOf : MethodName := ⟨RX5, "numberOf", "(LFrameTalk$Thing;)I"⟩
def RX6 : String := "FrameTalk"
def TX6 : u_T := fun k => match k with
  | 0 => ("FrameTalk", "program", "LFrameTalk$Program;", true)
  | _ => ("FrameTalk", "machine", "LFrameTalk$Machine;", true)
def tyX6 : Nat → FieldType := fun k => match k with
  | 0 => .object "FrameTalk$Program"
  | _ => .object "FrameTalk$Machine"
abbrev wsX60 : List Cond := u_ws RX6 TX6 2
theorem nmX6 : ∀ a, a < 2 → ∀ b, b < 2 → a ≠ b → (TX6 a).2.1 ≠ (TX6 b).2.1 := by decide +kernel
theorem tyX6_ok : ∀ k, k < 2 → parseFieldDescriptor (TX6 k).2.2.1 = some (tyX6 k) := by decide +kernel
abbrev cX6_init : ByteArray := prog_1_method_1_code
def yX6_init : MethodName := ⟨RX6, "<init>", "()V"⟩
abbrev cX6_lit : ByteArray := prog_1_method_2_code
def yX6_lit : MethodName := ⟨RX6, "lit", "(J)I"⟩
abbrev cX6_node : ByteArray := prog_1_method_3_code
def yX6_node : MethodName := ⟨RX6, "node", "(IIII)I"⟩
abbrev cX6_part : ByteArray := prog_1_method_4_code
def yX6_part : MethodName := ⟨RX6, "part", "(III)I"⟩
abbrev cX6_run : ByteArray := prog_1_method_5_code
def yX6_run : MethodName := ⟨RX6, "run", "(II)I"⟩
abbrev cX6_value : ByteArray := prog_1_method_6_code
def yX6_value : MethodName := ⟨RX6, "value", "(I)J"⟩
abbrev cX6_thing : ByteArray := prog_1_method_7_code
def yX6_thing : MethodName := ⟨RX6, "thing", "(II)I"⟩
abbrev cX6_fault : ByteArray := prog_1_method_8_code
def yX6_fault : MethodName := ⟨RX6, "fault", "()I"⟩
abbrev cX6_faultNode : ByteArray := prog_1_method_9_code
def yX6_faultNode : MethodName := ⟨RX6, "faultNode", "()I"⟩
abbrev cX6_steps : ByteArray := prog_1_method_10_code
def yX6_steps : MethodName := ⟨RX6, "steps", "()I"⟩
abbrev cX6_wipe : ByteArray := prog_1_method_11_code
def yX6_wipe : MethodName := ⟨RX6, "wipe", "()V"⟩
def RX7 : String := "FrameTalkModel"
def TX7 : u_T := fun k => match k with
  | 0 => ("FrameTalkModel", "named", "[I", true)
  | 1 => ("FrameTalkModel", "op", "[I", true)
  | 2 => ("FrameTalkModel", "parts", "[I", true)
  | 3 => ("FrameTalkModel", "literal", "[J", true)
  | 4 => ("FrameTalkModel", "nodes", "I", false)
  | 5 => ("FrameTalkModel", "kind", "[I", true)
  | 6 => ("FrameTalkModel", "one", "[I", true)
  | 7 => ("FrameTalkModel", "two", "[I", true)
  | 8 => ("FrameTalkModel", "value", "[J", true)
  | 9 => ("FrameTalkModel", "things", "I", false)
  | 10 => ("FrameTalkModel", "places", "[I", true)
  | 11 => ("FrameTalkModel", "placed", "I", false)
  | 12 => ("FrameTalkModel", "slots", "[I", true)
  | 13 => ("FrameTalkModel", "held", "I", false)
  | 14 => ("FrameTalkModel", "workNode", "[I", true)
  | 15 => ("FrameTalkModel", "phase", "[I", true)
  | 16 => ("FrameTalkModel", "gave", "[I", true)
  | 17 => ("FrameTalkModel", "times", "[J", true)
  | 18 => ("FrameTalkModel", "depth", "I", false)
  | 19 => ("FrameTalkModel", "got", "I", false)
  | 20 => ("FrameTalkModel", "out", "I", false)
  | 21 => ("FrameTalkModel", "outNode", "I", false)
  | 22 => ("FrameTalkModel", "left", "I", false)
  | 23 => ("FrameTalkModel", "taken", "I", false)
  | 24 => ("FrameTalkModel", "spent", "I", false)
  | 25 => ("FrameTalkModel", "given", "I", false)
  | 26 => ("FrameTalkModel", "fault", "I", false)
  | _ => ("FrameTalkModel", "faultNode", "I", false)
def tyX7 : Nat → FieldType := fun k => match k with
  | 0 => .array .int
  | 1 => .array .int
  | 2 => .array .int
  | 3 => .array .long
  | 4 => .int
  | 5 => .array .int
  | 6 => .array .int
  | 7 => .array .int
  | 8 => .array .long
  | 9 => .int
  | 10 => .array .int
  | 11 => .int
  | 12 => .array .int
  | 13 => .int
  | 14 => .array .int
  | 15 => .array .int
  | 16 => .array .int
  | 17 => .array .long
  | 18 => .int
  | 19 => .int
  | 20 => .int
  | 21 => .int
  | 22 => .int
  | 23 => .int
  | 24 => .int
  | 25 => .int
  | 26 => .int
  | _ => .int
abbrev wsX70 : List Cond := u_ws RX7 TX7 28
theorem nmX7 : ∀ a, a < 28 → ∀ b, b < 28 → a ≠ b → (TX7 a).2.1 ≠ (TX7 b).2.1 := by decide +kernel
theorem tyX7_ok : ∀ k, k < 28 → parseFieldDescriptor (TX7 k).2.2.1 = some (tyX7 k) := by decide +kernel
abbrev cX7_init : ByteArray := prog_9_method_1_code
def yX7_init : MethodName := ⟨RX7, "<init>", "()V"⟩
abbrev cX7_lit : ByteArray := prog_9_method_2_code
def yX7_lit : MethodName := ⟨RX7, "lit", "(J)I"⟩
abbrev cX7_isNode : ByteArray := prog_9_method_3_code
def yX7_isNode : MethodName := ⟨RX7, "isNode", "(II)Z"⟩
abbrev cX7_join : ByteArray := prog_9_method_4_code
def yX7_join : MethodName := ⟨RX7, "join", "(III)V"⟩
abbrev cX7_node : ByteArray := prog_9_method_5_code
def yX7_node : MethodName := ⟨RX7, "node", "(IIII)I"⟩
abbrev cX7_part : ByteArray := prog_9_method_6_code
def yX7_part : MethodName := ⟨RX7, "part", "(III)I"⟩
abbrev cX7_number : ByteArray := prog_9_method_7_code
def yX7_number : MethodName := ⟨RX7, "number", "(II)I"⟩
abbrev cX7_make : ByteArray := prog_9_method_8_code
def yX7_make : MethodName := ⟨RX7, "make", "(IJII)I"⟩
abbrev cX7_num : ByteArray := prog_9_method_9_code
def yX7_num : MethodName := ⟨RX7, "num", "(J)I"⟩
abbrev cX7_fail : ByteArray := prog_9_method_10_code
def yX7_fail : MethodName := ⟨RX7, "fail", "(II)I"⟩
abbrev cX7_is : ByteArray := prog_9_method_11_code
def yX7_is : MethodName := ⟨RX7, "is", "(III)Z"⟩
abbrev cX7_enter : ByteArray := prog_9_method_12_code
def yX7_enter : MethodName := ⟨RX7, "enter", "(I)V"⟩
abbrev cX7_begin : ByteArray := prog_9_method_13_code
def yX7_begin : MethodName := ⟨RX7, "begin", "(II)V"⟩
abbrev cX7_run : ByteArray := prog_9_method_14_code
def yX7_run : MethodName := ⟨RX7, "run", "(II)I"⟩
abbrev cX7_outward : ByteArray := prog_9_method_15_code
def yX7_outward : MethodName := ⟨RX7, "outward", "(I)V"⟩
abbrev cX7_forward : ByteArray := prog_9_method_16_code
def yX7_forward : MethodName := ⟨RX7, "forward", "(I)V"⟩
abbrev cX7_part0 : ByteArray := prog_9_method_17_code
def yX7_part0 : MethodName := ⟨RX7, "part0", "(I)V"⟩
abbrev cX7_choose : ByteArray := prog_9_method_18_code
def yX7_choose : MethodName := ⟨RX7, "choose", "(I)V"⟩
abbrev cX7_again : ByteArray := prog_9_method_19_code
def yX7_again : MethodName := ⟨RX7, "again", "(I)V"⟩
abbrev cX7_eager : ByteArray := prog_9_method_20_code
def yX7_eager : MethodName := ⟨RX7, "eager", "(I)V"⟩
abbrev cX7_act : ByteArray := prog_9_method_21_code
def yX7_act : MethodName := ⟨RX7, "act", "(IIII)I"⟩
abbrev cX7_noSlot : ByteArray := prog_9_method_22_code
def yX7_noSlot : MethodName := ⟨RX7, "noSlot", "(II)Z"⟩
abbrev cX7_simple : ByteArray := prog_9_method_23_code
def yX7_simple : MethodName := ⟨RX7, "simple", "(IIII)I"⟩
abbrev cX7_send : ByteArray := prog_9_method_24_code
def yX7_send : MethodName := ⟨RX7, "send", "(III)I"⟩
abbrev cX7_reckon : ByteArray := prog_9_method_25_code
def yX7_reckon : MethodName := ⟨RX7, "reckon", "(IIJJ)I"⟩
abbrev cX7_larger : ByteArray := prog_9_method_26_code
def yX7_larger : MethodName := ⟨RX7, "larger", "(IIII)I"⟩
abbrev cX7_newRow : ByteArray := prog_9_method_27_code
def yX7_newRow : MethodName := ⟨RX7, "newRow", "(II)I"⟩
abbrev cX7_inRow : ByteArray := prog_9_method_28_code
def yX7_inRow : MethodName := ⟨RX7, "inRow", "(IIII)I"⟩
abbrev cX7_thingAt : ByteArray := prog_9_method_29_code
def yX7_thingAt : MethodName := ⟨RX7, "thingAt", "(I)I"⟩
abbrev cX7_value : ByteArray := prog_9_method_30_code
def yX7_value : MethodName := ⟨RX7, "value", "(I)J"⟩
abbrev cX7_thing : ByteArray := prog_9_method_31_code
def yX7_thing : MethodName := ⟨RX7, "thing", "(II)I"⟩
abbrev cX7_fault : ByteArray := prog_9_method_32_code
def yX7_fault : MethodName := ⟨RX7, "fault", "()I"⟩
abbrev cX7_faultNode : ByteArray := prog_9_method_33_code
def yX7_faultNode : MethodName := ⟨RX7, "faultNode", "()I"⟩
abbrev cX7_steps : ByteArray := prog_9_method_34_code
def yX7_steps : MethodName := ⟨RX7, "steps", "()I"⟩
abbrev cX7_wipe : ByteArray := prog_9_method_35_code
def yX7_wipe : MethodName := ⟨RX7, "wipe", "()V"⟩
def RJx145de : String := "java/io/Serializable"
def TJx145de : u_T := fun k => match k with
  | _ => ("", "", "", false)
def tyJx145de : Nat → FieldType := fun k => match k with
  | _ => .int
abbrev wsJx145de0 : List Cond := u_ws RJx145de TJx145de 0
theorem nmJx145de : ∀ a, a < 0 → ∀ b, b < 0 → a ≠ b → (TJx145de a).2.1 ≠ (TJx145de b).2.1 := by decide +kernel
theorem tyJx145de_ok : ∀ k, k < 0 → parseFieldDescriptor (TJx145de k).2.2.1 = some (tyJx145de k) := by decide +kernel
def RJx8e188 : String := "java/lang/Cloneable"
def TJx8e188 : u_T := fun k => match k with
  | _ => ("", "", "", false)
def tyJx8e188 : Nat → FieldType := fun k => match k with
  | _ => .int
abbrev wsJx8e1880 : List Cond := u_ws RJx8e188 TJx8e188 0
theorem nmJx8e188 : ∀ a, a < 0 → ∀ b, b < 0 → a ≠ b → (TJx8e188 a).2.1 ≠ (TJx8e188 b).2.1 := by decide +kernel
theorem tyJx8e188_ok : ∀ k, k < 0 → parseFieldDescriptor (TJx8e188 k).2.2.1 = some (tyJx8e188 k) := by decide +kernel
def RJxab1ab : String := "java/lang/Iterable"
def TJxab1ab : u_T := fun k => match k with
  | _ => ("", "", "", false)
def tyJxab1ab : Nat → FieldType := fun k => match k with
  | _ => .int
abbrev wsJxab1ab0 : List Cond := u_ws RJxab1ab TJxab1ab 0
theorem nmJxab1ab : ∀ a, a < 0 → ∀ b, b < 0 → a ≠ b → (TJxab1ab a).2.1 ≠ (TJxab1ab b).2.1 := by decide +kernel
theorem tyJxab1ab_ok : ∀ k, k < 0 → parseFieldDescriptor (TJxab1ab k).2.2.1 = some (tyJxab1ab k) := by decide +kernel
def RJ9 : String := "java/lang/Math"
def TJ9 : u_T := fun k => match k with
  | _ => ("", "", "", false)
def tyJ9 : Nat → FieldType := fun k => match k with
  | _ => .int
abbrev wsJ90 : List Cond := u_ws RJ9 TJ9 0
theorem nmJ9 : ∀ a, a < 0 → ∀ b, b < 0 → a ≠ b → (TJ9 a).2.1 ≠ (TJ9 b).2.1 := by decide +kernel
theorem tyJ9_ok : ∀ k, k < 0 → parseFieldDescriptor (TJ9 k).2.2.1 = some (tyJ9 k) := by decide +kernel
abbrev cJ9_max_7cf53 : ByteArray := prog_13_method_65_code
def yJ9_max_7cf53 : MethodName := ⟨RJ9, "max", "(II)I"⟩
abbrev cJ9_min_7cf53 : ByteArray := prog_13_method_69_code
def yJ9_min_7cf53 : MethodName := ⟨RJ9, "min", "(II)I"⟩
def RJ10 : String := "java/lang/System"
def TJ10 : u_T := fun k => match k with
  | _ => ("", "", "", false)
def tyJ10 : Nat → FieldType := fun k => match k with
  | _ => .int
abbrev wsJ100 : List Cond := u_ws RJ10 TJ10 0
theorem nmJ10 : ∀ a, a < 0 → ∀ b, b < 0 → a ≠ b → (TJ10 a).2.1 ≠ (TJ10 b).2.1 := by decide +kernel
theorem tyJ10_ok : ∀ k, k < 0 → parseFieldDescriptor (TJ10 k).2.2.1 = some (tyJ10 k) := by decide +kernel
def RJxa1e45 : String := "java/util/AbstractCollection"
def TJxa1e45 : u_T := fun k => match k with
  | _ => ("", "", "", false)
def tyJxa1e45 : Nat → FieldType := fun k => match k with
  | _ => .int
abbrev wsJxa1e450 : List Cond := u_ws RJxa1e45 TJxa1e45 0
theorem nmJxa1e45 : ∀ a, a < 0 → ∀ b, b < 0 → a ≠ b → (TJxa1e45 a).2.1 ≠ (TJxa1e45 b).2.1 := by decide +kernel
theorem tyJxa1e45_ok : ∀ k, k < 0 → parseFieldDescriptor (TJxa1e45 k).2.2.1 = some (tyJxa1e45 k) := by decide +kernel
abbrev cJxa1e45_init_da8c8 : ByteArray := prog_15_method_1_code
def yJxa1e45_init_da8c8 : MethodName := ⟨RJxa1e45, "<init>", "()V"⟩
def RJxc12de : String := "java/util/AbstractList"
def TJxc12de : u_T := fun k => match k with
  | _ => ("", "", "", false)
def tyJxc12de : Nat → FieldType := fun k => match k with
  | _ => .int
abbrev wsJxc12de0 : List Cond := u_ws RJxc12de TJxc12de 0
theorem nmJxc12de : ∀ a, a < 0 → ∀ b, b < 0 → a ≠ b → (TJxc12de a).2.1 ≠ (TJxc12de b).2.1 := by decide +kernel
theorem tyJxc12de_ok : ∀ k, k < 0 → parseFieldDescriptor (TJxc12de k).2.2.1 = some (tyJxc12de k) := by decide +kernel
abbrev cJxc12de_init_da8c8 : ByteArray := prog_16_method_1_code
def yJxc12de_init_da8c8 : MethodName := ⟨RJxc12de, "<init>", "()V"⟩
def RJx4a65c : String := "java/util/ArrayList"
def TJx4a65c : u_T := fun k => match k with
  | 0 => ("java/util/AbstractList", "modCount", "I", false)
  | 1 => ("java/util/ArrayList", "elementData", "[Ljava/lang/Object;", false)
  | _ => ("java/util/ArrayList", "size", "I", false)
def tyJx4a65c : Nat → FieldType := fun k => match k with
  | 0 => .int
  | 1 => .array (.object "java/lang/Object")
  | _ => .int
abbrev wsJx4a65c0 : List Cond := u_ws RJx4a65c TJx4a65c 3
theorem nmJx4a65c : ∀ a, a < 3 → ∀ b, b < 3 → a ≠ b → (TJx4a65c a).2.1 ≠ (TJx4a65c b).2.1 := by decide +kernel
theorem tyJx4a65c_ok : ∀ k, k < 3 → parseFieldDescriptor (TJx4a65c k).2.2.1 = some (tyJx4a65c k) := by decide +kernel
abbrev cJx4a65c_init_da8c8 : ByteArray := prog_17_method_2_code
def yJx4a65c_init_da8c8 : MethodName := ⟨RJx4a65c, "<init>", "()V"⟩
abbrev cJx4a65c_grow_92f84 : ByteArray := prog_17_method_6_code
def yJx4a65c_grow_92f84 : MethodName := ⟨RJx4a65c, "grow", "(I)[Ljava/lang/Object;"⟩
abbrev cJx4a65c_grow_d5877 : ByteArray := prog_17_method_7_code
def yJx4a65c_grow_d5877 : MethodName := ⟨RJx4a65c, "grow", "()[Ljava/lang/Object;"⟩
abbrev cJx4a65c_size_8abf5 : ByteArray := prog_17_method_8_code
def yJx4a65c_size_8abf5 : MethodName := ⟨RJx4a65c, "size", "()I"⟩
abbrev cJx4a65c_elementData_915e3 : ByteArray := prog_17_method_18_code
def yJx4a65c_elementData_915e3 : MethodName := ⟨RJx4a65c, "elementData", "(I)Ljava/lang/Object;"⟩
abbrev cJx4a65c_get_915e3 : ByteArray := prog_17_method_20_code
def yJx4a65c_get_915e3 : MethodName := ⟨RJx4a65c, "get", "(I)Ljava/lang/Object;"⟩
abbrev cJx4a65c_add_72be8 : ByteArray := prog_17_method_24_code
def yJx4a65c_add_72be8 : MethodName := ⟨RJx4a65c, "add", "(Ljava/lang/Object;[Ljava/lang/Object;I)V"⟩
abbrev cJx4a65c_add_9ea2d : ByteArray := prog_17_method_25_code
def yJx4a65c_add_9ea2d : MethodName := ⟨RJx4a65c, "add", "(Ljava/lang/Object;)Z"⟩
abbrev cJx4a65c_clear_da8c8 : ByteArray := prog_17_method_40_code
def yJx4a65c_clear_da8c8 : MethodName := ⟨RJx4a65c, "clear", "()V"⟩
def RJ7 : String := "java/util/Arrays"
def TJ7 : u_T := fun k => match k with
  | _ => ("", "", "", false)
def tyJ7 : Nat → FieldType := fun k => match k with
  | _ => .int
abbrev wsJ70 : List Cond := u_ws RJ7 TJ7 0
theorem nmJ7 : ∀ a, a < 0 → ∀ b, b < 0 → a ≠ b → (TJ7 a).2.1 ≠ (TJ7 b).2.1 := by decide +kernel
theorem tyJ7_ok : ∀ k, k < 0 → parseFieldDescriptor (TJ7 k).2.2.1 = some (tyJ7 k) := by decide +kernel
abbrev cJ7_copyOf_1904c : ByteArray := prog_18_method_119_code
def yJ7_copyOf_1904c : MethodName := ⟨RJ7, "copyOf", "([Ljava/lang/Object;I)[Ljava/lang/Object;"⟩
abbrev cJ7_copyOf_6403c : ByteArray := prog_18_method_120_code
def yJ7_copyOf_6403c : MethodName := ⟨RJ7, "copyOf", "([Ljava/lang/Object;ILjava/lang/Class;)[Ljava/lang/Object;"⟩
def RJx5ef63 : String := "java/util/Collection"
def TJx5ef63 : u_T := fun k => match k with
  | _ => ("", "", "", false)
def tyJx5ef63 : Nat → FieldType := fun k => match k with
  | _ => .int
abbrev wsJx5ef630 : List Cond := u_ws RJx5ef63 TJx5ef63 0
theorem nmJx5ef63 : ∀ a, a < 0 → ∀ b, b < 0 → a ≠ b → (TJx5ef63 a).2.1 ≠ (TJx5ef63 b).2.1 := by decide +kernel
theorem tyJx5ef63_ok : ∀ k, k < 0 → parseFieldDescriptor (TJx5ef63 k).2.2.1 = some (tyJx5ef63 k) := by decide +kernel
def RJxbd725 : String := "java/util/List"
def TJxbd725 : u_T := fun k => match k with
  | _ => ("", "", "", false)
def tyJxbd725 : Nat → FieldType := fun k => match k with
  | _ => .int
abbrev wsJxbd7250 : List Cond := u_ws RJxbd725 TJxbd725 0
theorem nmJxbd725 : ∀ a, a < 0 → ∀ b, b < 0 → a ≠ b → (TJxbd725 a).2.1 ≠ (TJxbd725 b).2.1 := by decide +kernel
theorem tyJxbd725_ok : ∀ k, k < 0 → parseFieldDescriptor (TJxbd725 k).2.2.1 = some (tyJxbd725 k) := by decide +kernel
def RJ15 : String := "java/util/Objects"
def TJ15 : u_T := fun k => match k with
  | _ => ("", "", "", false)
def tyJ15 : Nat → FieldType := fun k => match k with
  | _ => .int
abbrev wsJ150 : List Cond := u_ws RJ15 TJ15 0
theorem nmJ15 : ∀ a, a < 0 → ∀ b, b < 0 → a ≠ b → (TJ15 a).2.1 ≠ (TJ15 b).2.1 := by decide +kernel
theorem tyJ15_ok : ∀ k, k < 0 → parseFieldDescriptor (TJ15 k).2.2.1 = some (tyJ15 k) := by decide +kernel
abbrev cJ15_checkIndex_7cf53 : ByteArray := prog_21_method_17_code
def yJ15_checkIndex_7cf53 : MethodName := ⟨RJ15, "checkIndex", "(II)I"⟩
def RJxf0a74 : String := "java/util/RandomAccess"
def TJxf0a74 : u_T := fun k => match k with
  | _ => ("", "", "", false)
def tyJxf0a74 : Nat → FieldType := fun k => match k with
  | _ => .int
abbrev wsJxf0a740 : List Cond := u_ws RJxf0a74 TJxf0a74 0
theorem nmJxf0a74 : ∀ a, a < 0 → ∀ b, b < 0 → a ≠ b → (TJxf0a74 a).2.1 ≠ (TJxf0a74 b).2.1 := by decide +kernel
theorem tyJxf0a74_ok : ∀ k, k < 0 → parseFieldDescriptor (TJxf0a74 k).2.2.1 = some (tyJxf0a74 k) := by decide +kernel
def RJxa66e6 : String := "java/util/SequencedCollection"
def TJxa66e6 : u_T := fun k => match k with
  | _ => ("", "", "", false)
def tyJxa66e6 : Nat → FieldType := fun k => match k with
  | _ => .int
abbrev wsJxa66e60 : List Cond := u_ws RJxa66e6 TJxa66e6 0
theorem nmJxa66e6 : ∀ a, a < 0 → ∀ b, b < 0 → a ≠ b → (TJxa66e6 a).2.1 ≠ (TJxa66e6 b).2.1 := by decide +kernel
theorem tyJxa66e6_ok : ∀ k, k < 0 → parseFieldDescriptor (TJxa66e6 k).2.2.1 = some (tyJxa66e6 k) := by decide +kernel
def RJ8 : String := "jdk/internal/util/ArraysSupport"
def TJ8 : u_T := fun k => match k with
  | _ => ("", "", "", false)
def tyJ8 : Nat → FieldType := fun k => match k with
  | _ => .int
abbrev wsJ80 : List Cond := u_ws RJ8 TJ8 0
theorem nmJ8 : ∀ a, a < 0 → ∀ b, b < 0 → a ≠ b → (TJ8 a).2.1 ≠ (TJ8 b).2.1 := by decide +kernel
theorem tyJ8_ok : ∀ k, k < 0 → parseFieldDescriptor (TJ8 k).2.2.1 = some (tyJ8 k) := by decide +kernel
abbrev cJ8_newLength_cabcc : ByteArray := prog_24_method_27_code
def yJ8_newLength_cabcc : MethodName := ⟨RJ8, "newLength", "(III)I"⟩
abbrev cJ8_hugeLength_7cf53 : ByteArray := prog_24_method_28_code
def yJ8_hugeLength_7cf53 : MethodName := ⟨RJ8, "hugeLength", "(II)I"⟩
def RJ3 : String := "jdk/internal/util/Preconditions"
def TJ3 : u_T := fun k => match k with
  | _ => ("", "", "", false)
def tyJ3 : Nat → FieldType := fun k => match k with
  | _ => .int
abbrev wsJ30 : List Cond := u_ws RJ3 TJ3 0
theorem nmJ3 : ∀ a, a < 0 → ∀ b, b < 0 → a ≠ b → (TJ3 a).2.1 ≠ (TJ3 b).2.1 := by decide +kernel
theorem tyJ3_ok : ∀ k, k < 0 → parseFieldDescriptor (TJ3 k).2.2.1 = some (tyJ3 k) := by decide +kernel
abbrev cJ3_checkIndex_8e157 : ByteArray := prog_25_method_11_code
def yJ3_checkIndex_8e157 : MethodName := ⟨RJ3, "checkIndex", "(IILjava/util/function/BiFunction;)I"⟩
def RL : String := "FrameTalkLaw"
abbrev cL_law : ByteArray := code
def yL_law : MethodName := ⟨RL, "law", "([I)Z"⟩
abbrev vwCl : List vw_C := [(RJx4a65c, TJx4a65c, 3), (RX0, TX0, 10), (RX1, TX1, 13), (RX2, TX2, 2), (RX3, TX3, 6), (RX4, TX4, 1), (RX5, TX5, 7), (RX6, TX6, 2), (RX7, TX7, 28)]
/-- the words that every contract takes: the tables' good ones -/
def wsL_law : List Cond := lw_tbl.filter goodWord
theorem gdL : wsL_law.all goodWord = true := List.all_eq_true.mpr (fun w h => (List.mem_filter.mp h).2)
theorem tbp {w : Cond} (i : Nat) (h : (k2_sels lw_privs)[i]? = some w) (g : goodWord w = true) : w ∈ wsL_law := List.mem_filter.mpr ⟨List.mem_append_left _ (List.mem_of_getElem? h), g⟩
theorem tb1 {w : Cond} (i : Nat) (h : tables_1_1[i]? = some w) (g : goodWord w = true) : w ∈ wsL_law := List.mem_filter.mpr ⟨List.mem_append_right _ (List.mem_append_left _ (List.mem_of_getElem? h)), g⟩
theorem tb2 {w : Cond} (i : Nat) (h : tables_1_2[i]? = some w) (g : goodWord w = true) : w ∈ wsL_law := List.mem_filter.mpr ⟨List.mem_append_right _ (List.mem_append_right _ (List.mem_append_left _ (List.mem_of_getElem? h))), g⟩
theorem tb3 {w : Cond} (i : Nat) (h : tables_1_3[i]? = some w) (g : goodWord w = true) : w ∈ wsL_law := List.mem_filter.mpr ⟨List.mem_append_right _ (List.mem_append_right _ (List.mem_append_right _ (List.mem_append_left _ (List.mem_of_getElem? h)))), g⟩
theorem tb4 {w : Cond} (i : Nat) (h : tables_1_4[i]? = some w) (g : goodWord w = true) : w ∈ wsL_law := List.mem_filter.mpr ⟨List.mem_append_right _ (List.mem_append_right _ (List.mem_append_right _ (List.mem_append_right _ (List.mem_of_getElem? h)))), g⟩
end
section
theorem dX0_init_0 : decode cX0_init 0 = .ok (.aload_n 0, 1) := by decide +kernel
theorem dX0_init_1 : decode cX0_init 1 = .ok (.invokespecial 1, 3) := by decide +kernel
theorem dX0_init_4 : decode cX0_init 4 = .ok (.aload_n 0, 1) := by decide +kernel
theorem dX0_init_5 : decode cX0_init 5 = .ok (.aload_n 1, 1) := by decide +kernel
theorem dX0_init_6 : decode cX0_init 6 = .ok (.putfield 7, 3) := by decide +kernel
theorem dX0_init_9 : decode cX0_init 9 = .ok (.aload_n 0, 1) := by decide +kernel
theorem dX0_init_10 : decode cX0_init 10 = .ok (.iload_n 2, 1) := by decide +kernel
theorem dX0_init_11 : decode cX0_init 11 = .ok (.putfield 13, 3) := by decide +kernel
theorem dX0_init_14 : decode cX0_init 14 = .ok (.return_, 1) := by decide +kernel
theorem dX0_within_0 : decode cX0_within 0 = .ok (.aload_n 0, 1) := by decide +kernel
theorem dX0_within_1 : decode cX0_within 1 = .ok (.getfield 17, 3) := by decide +kernel
theorem dX0_within_4 : decode cX0_within 4 = .ok (.ifnonnull 21, 3) := by decide +kernel
theorem dX0_within_7 : decode cX0_within 7 = .ok (.aload_n 0, 1) := by decide +kernel
theorem dX0_within_8 : decode cX0_within 8 = .ok (.new 8, 3) := by decide +kernel
theorem dX0_within_11 : decode cX0_within 11 = .ok (.dup, 1) := by decide +kernel
theorem dX0_within_12 : decode cX0_within 12 = .ok (.aload_n 0, 1) := by decide +kernel
theorem dX0_within_13 : decode cX0_within 13 = .ok (.aload_n 0, 1) := by decide +kernel
theorem dX0_within_14 : decode cX0_within 14 = .ok (.getfield 13, 3) := by decide +kernel
theorem dX0_within_17 : decode cX0_within 17 = .ok (.iconst 1, 1) := by decide +kernel
theorem dX0_within_18 : decode cX0_within 18 = .ok (.iadd, 1) := by decide +kernel
theorem dX0_within_19 : decode cX0_within 19 = .ok (.invokespecial 20, 3) := by decide +kernel
theorem dX0_within_22 : decode cX0_within 22 = .ok (.putfield 17, 3) := by decide +kernel
theorem dX0_within_25 : decode cX0_within 25 = .ok (.aload_n 0, 1) := by decide +kernel
theorem dX0_within_26 : decode cX0_within 26 = .ok (.getfield 17, 3) := by decide +kernel
theorem dX0_within_29 : decode cX0_within 29 = .ok (.areturn, 1) := by decide +kernel
theorem dX0_begin_0 : decode cX0_begin 0 = .ok (.aload_n 0, 1) := by decide +kernel
theorem dX0_begin_1 : decode cX0_begin 1 = .ok (.aload_n 1, 1) := by decide +kernel
theorem dX0_begin_2 : decode cX0_begin 2 = .ok (.putfield 23, 3) := by decide +kernel
theorem dX0_begin_5 : decode cX0_begin 5 = .ok (.aload_n 0, 1) := by decide +kernel
theorem dX0_begin_6 : decode cX0_begin 6 = .ok (.iconst (-1), 1) := by decide +kernel
theorem dX0_begin_7 : decode cX0_begin 7 = .ok (.putfield 27, 3) := by decide +kernel
theorem dX0_begin_10 : decode cX0_begin 10 = .ok (.aload_n 0, 1) := by decide +kernel
theorem dX0_begin_11 : decode cX0_begin 11 = .ok (.aconst_null, 1) := by decide +kernel
theorem dX0_begin_12 : decode cX0_begin 12 = .ok (.putfield 30, 3) := by decide +kernel
theorem dX0_begin_15 : decode cX0_begin 15 = .ok (.aload_n 0, 1) := by decide +kernel
theorem dX0_begin_16 : decode cX0_begin 16 = .ok (.aconst_null, 1) := by decide +kernel
theorem dX0_begin_17 : decode cX0_begin 17 = .ok (.putfield 34, 3) := by decide +kernel
theorem dX0_begin_20 : decode cX0_begin 20 = .ok (.aload_n 0, 1) := by decide +kernel
theorem dX0_begin_21 : decode cX0_begin 21 = .ok (.aconst_null, 1) := by decide +kernel
theorem dX0_begin_22 : decode cX0_begin 22 = .ok (.putfield 37, 3) := by decide +kernel
theorem dX0_begin_25 : decode cX0_begin 25 = .ok (.aload_n 0, 1) := by decide +kernel
theorem dX0_begin_26 : decode cX0_begin 26 = .ok (.aconst_null, 1) := by decide +kernel
theorem dX0_begin_27 : decode cX0_begin 27 = .ok (.putfield 40, 3) := by decide +kernel
theorem dX0_begin_30 : decode cX0_begin 30 = .ok (.aload_n 0, 1) := by decide +kernel
theorem dX0_begin_31 : decode cX0_begin 31 = .ok (.lconst 0, 1) := by decide +kernel
theorem dX0_begin_32 : decode cX0_begin 32 = .ok (.putfield 43, 3) := by decide +kernel
theorem dX0_begin_35 : decode cX0_begin 35 = .ok (.return_, 1) := by decide +kernel
theorem dX0_receive_0 : decode cX0_receive 0 = .ok (.aload_n 0, 1) := by decide +kernel
theorem dX0_receive_1 : decode cX0_receive 1 = .ok (.aload_n 1, 1) := by decide +kernel
theorem dX0_receive_2 : decode cX0_receive 2 = .ok (.putfield 40, 3) := by decide +kernel
theorem dX0_receive_5 : decode cX0_receive 5 = .ok (.aload_n 0, 1) := by decide +kernel
theorem dX0_receive_6 : decode cX0_receive 6 = .ok (.getfield 27, 3) := by decide +kernel
theorem dX0_receive_9 : decode cX0_receive 9 = .ok (.lookupswitch 43 #[(0, 27), (1, 35)], 27) := by decide +kernel
theorem dX0_receive_36 : decode cX0_receive 36 = .ok (.aload_n 0, 1) := by decide +kernel
theorem dX0_receive_37 : decode cX0_receive 37 = .ok (.aload_n 1, 1) := by decide +kernel
theorem dX0_receive_38 : decode cX0_receive 38 = .ok (.putfield 30, 3) := by decide +kernel
theorem dX0_receive_41 : decode cX0_receive 41 = .ok (.goto 16, 3) := by decide +kernel
theorem dX0_receive_44 : decode cX0_receive 44 = .ok (.aload_n 0, 1) := by decide +kernel
theorem dX0_receive_45 : decode cX0_receive 45 = .ok (.aload_n 1, 1) := by decide +kernel
theorem dX0_receive_46 : decode cX0_receive 46 = .ok (.putfield 34, 3) := by decide +kernel
theorem dX0_receive_49 : decode cX0_receive 49 = .ok (.goto 8, 3) := by decide +kernel
theorem dX0_receive_52 : decode cX0_receive 52 = .ok (.aload_n 0, 1) := by decide +kernel
theorem dX0_receive_53 : decode cX0_receive 53 = .ok (.aload_n 1, 1) := by decide +kernel
theorem dX0_receive_54 : decode cX0_receive 54 = .ok (.putfield 37, 3) := by decide +kernel
theorem dX0_receive_57 : decode cX0_receive 57 = .ok (.return_, 1) := by decide +kernel
theorem dX1_init_0 : decode cX1_init 0 = .ok (.aload_n 0, 1) := by decide +kernel
theorem dX1_init_1 : decode cX1_init 1 = .ok (.invokespecial 3, 3) := by decide +kernel
theorem dX1_init_4 : decode cX1_init 4 = .ok (.aload_n 0, 1) := by decide +kernel
theorem dX1_init_5 : decode cX1_init 5 = .ok (.new 9, 3) := by decide +kernel
theorem dX1_init_8 : decode cX1_init 8 = .ok (.dup, 1) := by decide +kernel
theorem dX1_init_9 : decode cX1_init 9 = .ok (.invokespecial 11, 3) := by decide +kernel
theorem dX1_init_12 : decode cX1_init 12 = .ok (.putfield 12, 3) := by decide +kernel
theorem dX1_init_15 : decode cX1_init 15 = .ok (.aload_n 0, 1) := by decide +kernel
theorem dX1_init_16 : decode cX1_init 16 = .ok (.new 18, 3) := by decide +kernel
theorem dX1_init_19 : decode cX1_init 19 = .ok (.dup, 1) := by decide +kernel
theorem dX1_init_20 : decode cX1_init 20 = .ok (.invokespecial 20, 3) := by decide +kernel
theorem dX1_init_23 : decode cX1_init 23 = .ok (.putfield 21, 3) := by decide +kernel
theorem dX1_init_26 : decode cX1_init 26 = .ok (.aload_n 0, 1) := by decide +kernel
theorem dX1_init_27 : decode cX1_init 27 = .ok (.sipush 256, 3) := by decide +kernel
theorem dX1_init_30 : decode cX1_init 30 = .ok (.anewarray 25, 3) := by decide +kernel
theorem dX1_init_33 : decode cX1_init 33 = .ok (.putfield 27, 3) := by decide +kernel
theorem dX1_init_36 : decode cX1_init 36 = .ok (.aload_n 0, 1) := by decide +kernel
theorem dX1_init_37 : decode cX1_init 37 = .ok (.new 31, 3) := by decide +kernel
theorem dX1_init_40 : decode cX1_init 40 = .ok (.dup, 1) := by decide +kernel
theorem dX1_init_41 : decode cX1_init 41 = .ok (.aconst_null, 1) := by decide +kernel
theorem dX1_init_42 : decode cX1_init 42 = .ok (.iconst 0, 1) := by decide +kernel
theorem dX1_init_43 : decode cX1_init 43 = .ok (.invokespecial 33, 3) := by decide +kernel
theorem dX1_init_46 : decode cX1_init 46 = .ok (.putfield 36, 3) := by decide +kernel
theorem dX1_init_49 : decode cX1_init 49 = .ok (.aload_n 0, 1) := by decide +kernel
theorem dX1_init_50 : decode cX1_init 50 = .ok (.aload_n 0, 1) := by decide +kernel
theorem dX1_init_51 : decode cX1_init 51 = .ok (.getfield 36, 3) := by decide +kernel
theorem dX1_init_54 : decode cX1_init 54 = .ok (.putfield 40, 3) := by decide +kernel
theorem dX1_init_57 : decode cX1_init 57 = .ok (.aload_n 0, 1) := by decide +kernel
theorem dX1_init_58 : decode cX1_init 58 = .ok (.iconst (-1), 1) := by decide +kernel
theorem dX1_init_59 : decode cX1_init 59 = .ok (.putfield 43, 3) := by decide +kernel
theorem dX1_init_62 : decode cX1_init 62 = .ok (.return_, 1) := by decide +kernel
theorem dX1_canSee_0 : decode cX1_canSee 0 = .ok (.iload_n 1, 1) := by decide +kernel
theorem dX1_canSee_1 : decode cX1_canSee 1 = .ok (.iconst (-1), 1) := by decide +kernel
theorem dX1_canSee_2 : decode cX1_canSee 2 = .ok (.if_icmp .eq 11, 3) := by decide +kernel
theorem dX1_canSee_5 : decode cX1_canSee 5 = .ok (.aload_n 0, 1) := by decide +kernel
theorem dX1_canSee_6 : decode cX1_canSee 6 = .ok (.iload_n 1, 1) := by decide +kernel
theorem dX1_canSee_7 : decode cX1_canSee 7 = .ok (.invokevirtual 47, 3) := by decide +kernel
theorem dX1_canSee_10 : decode cX1_canSee 10 = .ok (.ifCond .eq 7, 3) := by decide +kernel
theorem dX1_canSee_13 : decode cX1_canSee 13 = .ok (.iconst 1, 1) := by decide +kernel
theorem dX1_canSee_14 : decode cX1_canSee 14 = .ok (.goto 4, 3) := by decide +kernel
theorem dX1_canSee_17 : decode cX1_canSee 17 = .ok (.iconst 0, 1) := by decide +kernel
theorem dX1_canSee_18 : decode cX1_canSee 18 = .ok (.ireturn, 1) := by decide +kernel
theorem dX1_seenAt_0 : decode cX1_seenAt 0 = .ok (.iload_n 1, 1) := by decide +kernel
theorem dX1_seenAt_1 : decode cX1_seenAt 1 = .ok (.iconst (-1), 1) := by decide +kernel
theorem dX1_seenAt_2 : decode cX1_seenAt 2 = .ok (.if_icmp .ne 8, 3) := by decide +kernel
theorem dX1_seenAt_5 : decode cX1_seenAt 5 = .ok (.aload_n 0, 1) := by decide +kernel
theorem dX1_seenAt_6 : decode cX1_seenAt 6 = .ok (.getfield 51, 3) := by decide +kernel
theorem dX1_seenAt_9 : decode cX1_seenAt 9 = .ok (.areturn, 1) := by decide +kernel
theorem dX1_seenAt_10 : decode cX1_seenAt 10 = .ok (.aload_n 0, 1) := by decide +kernel
theorem dX1_seenAt_11 : decode cX1_seenAt 11 = .ok (.iload_n 1, 1) := by decide +kernel
theorem dX1_seenAt_12 : decode cX1_seenAt 12 = .ok (.invokevirtual 47, 3) := by decide +kernel
theorem dX1_seenAt_15 : decode cX1_seenAt 15 = .ok (.ifCond .eq 12, 3) := by decide +kernel
theorem dX1_seenAt_18 : decode cX1_seenAt 18 = .ok (.aload_n 0, 1) := by decide +kernel
theorem dX1_seenAt_19 : decode cX1_seenAt 19 = .ok (.getfield 27, 3) := by decide +kernel
theorem dX1_seenAt_22 : decode cX1_seenAt 22 = .ok (.iload_n 1, 1) := by decide +kernel
theorem dX1_seenAt_23 : decode cX1_seenAt 23 = .ok (.aaload, 1) := by decide +kernel
theorem dX1_seenAt_24 : decode cX1_seenAt 24 = .ok (.goto 4, 3) := by decide +kernel
theorem dX1_seenAt_27 : decode cX1_seenAt 27 = .ok (.aconst_null, 1) := by decide +kernel
theorem dX1_seenAt_28 : decode cX1_seenAt 28 = .ok (.areturn, 1) := by decide +kernel
theorem dX1_forget_0 : decode cX1_forget 0 = .ok (.iconst 0, 1) := by decide +kernel
theorem dX1_forget_1 : decode cX1_forget 1 = .ok (.istore_n 1, 1) := by decide +kernel
theorem dX1_forget_2 : decode cX1_forget 2 = .ok (.iload_n 1, 1) := by decide +kernel
theorem dX1_forget_3 : decode cX1_forget 3 = .ok (.sipush 256, 3) := by decide +kernel
theorem dX1_forget_6 : decode cX1_forget 6 = .ok (.if_icmp .ge 16, 3) := by decide +kernel
theorem dX1_forget_9 : decode cX1_forget 9 = .ok (.aload_n 0, 1) := by decide +kernel
theorem dX1_forget_10 : decode cX1_forget 10 = .ok (.getfield 27, 3) := by decide +kernel
theorem dX1_forget_13 : decode cX1_forget 13 = .ok (.iload_n 1, 1) := by decide +kernel
theorem dX1_forget_14 : decode cX1_forget 14 = .ok (.aconst_null, 1) := by decide +kernel
theorem dX1_forget_15 : decode cX1_forget 15 = .ok (.aastore, 1) := by decide +kernel
theorem dX1_forget_16 : decode cX1_forget 16 = .ok (.iinc 1 1, 3) := by decide +kernel
theorem dX1_forget_19 : decode cX1_forget 19 = .ok (.goto (-17), 3) := by decide +kernel
theorem dX1_forget_22 : decode cX1_forget 22 = .ok (.aload_n 0, 1) := by decide +kernel
theorem dX1_forget_23 : decode cX1_forget 23 = .ok (.aconst_null, 1) := by decide +kernel
theorem dX1_forget_24 : decode cX1_forget 24 = .ok (.putfield 55, 3) := by decide +kernel
theorem dX1_forget_27 : decode cX1_forget 27 = .ok (.aload_n 0, 1) := by decide +kernel
theorem dX1_forget_28 : decode cX1_forget 28 = .ok (.aconst_null, 1) := by decide +kernel
theorem dX1_forget_29 : decode cX1_forget 29 = .ok (.putfield 51, 3) := by decide +kernel
theorem dX1_forget_32 : decode cX1_forget 32 = .ok (.return_, 1) := by decide +kernel
theorem dX1_begin_0 : decode cX1_begin 0 = .ok (.aload_n 0, 1) := by decide +kernel
theorem dX1_begin_1 : decode cX1_begin 1 = .ok (.iload_n 2, 1) := by decide +kernel
theorem dX1_begin_2 : decode cX1_begin 2 = .ok (.ldc 58, 2) := by decide +kernel
theorem dX1_begin_4 : decode cX1_begin 4 = .ok (.aload_n 0, 1) := by decide +kernel
theorem dX1_begin_5 : decode cX1_begin 5 = .ok (.getfield 59, 3) := by decide +kernel
theorem dX1_begin_8 : decode cX1_begin 8 = .ok (.isub, 1) := by decide +kernel
theorem dX1_begin_9 : decode cX1_begin 9 = .ok (.invokestatic 62, 3) := by decide +kernel
theorem dX1_begin_12 : decode cX1_begin 12 = .ok (.putfield 68, 3) := by decide +kernel
theorem dX1_begin_15 : decode cX1_begin 15 = .ok (.aload_n 0, 1) := by decide +kernel
theorem dX1_begin_16 : decode cX1_begin 16 = .ok (.iconst 0, 1) := by decide +kernel
theorem dX1_begin_17 : decode cX1_begin 17 = .ok (.putfield 71, 3) := by decide +kernel
theorem dX1_begin_20 : decode cX1_begin 20 = .ok (.aload_n 0, 1) := by decide +kernel
theorem dX1_begin_21 : decode cX1_begin 21 = .ok (.iconst 0, 1) := by decide +kernel
theorem dX1_begin_22 : decode cX1_begin 22 = .ok (.putfield 74, 3) := by decide +kernel
theorem dX1_begin_25 : decode cX1_begin 25 = .ok (.aload_n 0, 1) := by decide +kernel
theorem dX1_begin_26 : decode cX1_begin 26 = .ok (.invokevirtual 78, 3) := by decide +kernel
theorem dX1_begin_29 : decode cX1_begin 29 = .ok (.aload_n 0, 1) := by decide +kernel
theorem dX1_begin_30 : decode cX1_begin 30 = .ok (.aconst_null, 1) := by decide +kernel
theorem dX1_begin_31 : decode cX1_begin 31 = .ok (.putfield 51, 3) := by decide +kernel
theorem dX1_begin_34 : decode cX1_begin 34 = .ok (.aload_n 0, 1) := by decide +kernel
theorem dX1_begin_35 : decode cX1_begin 35 = .ok (.getfield 36, 3) := by decide +kernel
theorem dX1_begin_38 : decode cX1_begin 38 = .ok (.aconst_null, 1) := by decide +kernel
theorem dX1_begin_39 : decode cX1_begin 39 = .ok (.invokevirtual 81, 3) := by decide +kernel
theorem dX1_begin_42 : decode cX1_begin 42 = .ok (.aload_n 0, 1) := by decide +kernel
theorem dX1_begin_43 : decode cX1_begin 43 = .ok (.aload_n 0, 1) := by decide +kernel
theorem dX1_begin_44 : decode cX1_begin 44 = .ok (.getfield 36, 3) := by decide +kernel
theorem dX1_begin_47 : decode cX1_begin 47 = .ok (.putfield 40, 3) := by decide +kernel
theorem dX1_begin_50 : decode cX1_begin 50 = .ok (.aload_n 1, 1) := by decide +kernel
theorem dX1_begin_51 : decode cX1_begin 51 = .ok (.ifnonnull 13, 3) := by decide +kernel
theorem dX1_begin_54 : decode cX1_begin 54 = .ok (.aload_n 0, 1) := by decide +kernel
theorem dX1_begin_55 : decode cX1_begin 55 = .ok (.iconst (-1), 1) := by decide +kernel
theorem dX1_begin_56 : decode cX1_begin 56 = .ok (.iconst 1, 1) := by decide +kernel
theorem dX1_begin_57 : decode cX1_begin 57 = .ok (.invokevirtual 85, 3) := by decide +kernel
theorem dX1_begin_60 : decode cX1_begin 60 = .ok (.pop, 1) := by decide +kernel
theorem dX1_begin_61 : decode cX1_begin 61 = .ok (.goto 8, 3) := by decide +kernel
theorem dX1_begin_64 : decode cX1_begin 64 = .ok (.aload_n 0, 1) := by decide +kernel
theorem dX1_begin_65 : decode cX1_begin 65 = .ok (.aload_n 1, 1) := by decide +kernel
theorem dX1_begin_66 : decode cX1_begin 66 = .ok (.invokevirtual 89, 3) := by decide +kernel
theorem dX1_begin_69 : decode cX1_begin 69 = .ok (.return_, 1) := by decide +kernel
theorem dX1_isAtWork_0 : decode cX1_isAtWork 0 = .ok (.aload_n 0, 1) := by decide +kernel
theorem dX1_isAtWork_1 : decode cX1_isAtWork 1 = .ok (.getfield 40, 3) := by decide +kernel
theorem dX1_isAtWork_4 : decode cX1_isAtWork 4 = .ok (.getfield 92, 3) := by decide +kernel
theorem dX1_isAtWork_7 : decode cX1_isAtWork 7 = .ok (.ifCond .le 14, 3) := by decide +kernel
theorem dX1_isAtWork_10 : decode cX1_isAtWork 10 = .ok (.aload_n 0, 1) := by decide +kernel
theorem dX1_isAtWork_11 : decode cX1_isAtWork 11 = .ok (.getfield 74, 3) := by decide +kernel
theorem dX1_isAtWork_14 : decode cX1_isAtWork 14 = .ok (.ifCond .ne 7, 3) := by decide +kernel
theorem dX1_isAtWork_17 : decode cX1_isAtWork 17 = .ok (.iconst 1, 1) := by decide +kernel
theorem dX1_isAtWork_18 : decode cX1_isAtWork 18 = .ok (.goto 4, 3) := by decide +kernel
theorem dX1_isAtWork_21 : decode cX1_isAtWork 21 = .ok (.iconst 0, 1) := by decide +kernel
theorem dX1_isAtWork_22 : decode cX1_isAtWork 22 = .ok (.ireturn, 1) := by decide +kernel
theorem dX1_takeTurn_0 : decode cX1_takeTurn 0 = .ok (.aload_n 0, 1) := by decide +kernel
theorem dX1_takeTurn_1 : decode cX1_takeTurn 1 = .ok (.getfield 40, 3) := by decide +kernel
theorem dX1_takeTurn_4 : decode cX1_takeTurn 4 = .ok (.astore_n 1, 1) := by decide +kernel
theorem dX1_takeTurn_5 : decode cX1_takeTurn 5 = .ok (.aload_n 0, 1) := by decide +kernel
theorem dX1_takeTurn_6 : decode cX1_takeTurn 6 = .ok (.getfield 95, 3) := by decide +kernel
theorem dX1_takeTurn_9 : decode cX1_takeTurn 9 = .ok (.ifCond .eq 9, 3) := by decide +kernel
theorem dX1_takeTurn_12 : decode cX1_takeTurn 12 = .ok (.aload_n 0, 1) := by decide +kernel
theorem dX1_takeTurn_13 : decode cX1_takeTurn 13 = .ok (.aload_n 1, 1) := by decide +kernel
theorem dX1_takeTurn_14 : decode cX1_takeTurn 14 = .ok (.invokevirtual 98, 3) := by decide +kernel
theorem dX1_takeTurn_17 : decode cX1_takeTurn 17 = .ok (.return_, 1) := by decide +kernel
theorem dX1_takeTurn_18 : decode cX1_takeTurn 18 = .ok (.aload_n 0, 1) := by decide +kernel
theorem dX1_takeTurn_19 : decode cX1_takeTurn 19 = .ok (.aload_n 1, 1) := by decide +kernel
theorem dX1_takeTurn_20 : decode cX1_takeTurn 20 = .ok (.invokevirtual 102, 3) := by decide +kernel
theorem dX1_takeTurn_23 : decode cX1_takeTurn 23 = .ok (.istore_n 2, 1) := by decide +kernel
theorem dX1_takeTurn_24 : decode cX1_takeTurn 24 = .ok (.aload_n 0, 1) := by decide +kernel
theorem dX1_takeTurn_25 : decode cX1_takeTurn 25 = .ok (.getfield 95, 3) := by decide +kernel
theorem dX1_takeTurn_28 : decode cX1_takeTurn 28 = .ok (.ifCond .eq 4, 3) := by decide +kernel
theorem dX1_takeTurn_31 : decode cX1_takeTurn 31 = .ok (.return_, 1) := by decide +kernel
theorem dX1_takeTurn_32 : decode cX1_takeTurn 32 = .ok (.iload_n 2, 1) := by decide +kernel
theorem dX1_takeTurn_33 : decode cX1_takeTurn 33 = .ok (.iconst 3, 1) := by decide +kernel
theorem dX1_takeTurn_34 : decode cX1_takeTurn 34 = .ok (.if_icmp .ne 16, 3) := by decide +kernel
theorem dX1_takeTurn_37 : decode cX1_takeTurn 37 = .ok (.aload_n 0, 1) := by decide +kernel
theorem dX1_takeTurn_38 : decode cX1_takeTurn 38 = .ok (.aload_n 1, 1) := by decide +kernel
theorem dX1_takeTurn_39 : decode cX1_takeTurn 39 = .ok (.aload_n 0, 1) := by decide +kernel
theorem dX1_takeTurn_40 : decode cX1_takeTurn 40 = .ok (.aload_n 1, 1) := by decide +kernel
theorem dX1_takeTurn_41 : decode cX1_takeTurn 41 = .ok (.invokevirtual 106, 3) := by decide +kernel
theorem dX1_takeTurn_44 : decode cX1_takeTurn 44 = .ok (.invokevirtual 110, 3) := by decide +kernel
theorem dX1_takeTurn_47 : decode cX1_takeTurn 47 = .ok (.goto 9, 3) := by decide +kernel
theorem dX1_takeTurn_50 : decode cX1_takeTurn 50 = .ok (.aload_n 0, 1) := by decide +kernel
theorem dX1_takeTurn_51 : decode cX1_takeTurn 51 = .ok (.aload_n 1, 1) := by decide +kernel
theorem dX1_takeTurn_52 : decode cX1_takeTurn 52 = .ok (.iload_n 2, 1) := by decide +kernel
theorem dX1_takeTurn_53 : decode cX1_takeTurn 53 = .ok (.invokevirtual 114, 3) := by decide +kernel
theorem dX1_takeTurn_56 : decode cX1_takeTurn 56 = .ok (.return_, 1) := by decide +kernel
theorem dX1_end_0 : decode cX1_end 0 = .ok (.aload_n 0, 1) := by decide +kernel
theorem dX1_end_1 : decode cX1_end 1 = .ok (.dup, 1) := by decide +kernel
theorem dX1_end_2 : decode cX1_end 2 = .ok (.getfield 59, 3) := by decide +kernel
theorem dX1_end_5 : decode cX1_end 5 = .ok (.aload_n 0, 1) := by decide +kernel
theorem dX1_end_6 : decode cX1_end 6 = .ok (.getfield 71, 3) := by decide +kernel
theorem dX1_end_9 : decode cX1_end 9 = .ok (.iadd, 1) := by decide +kernel
theorem dX1_end_10 : decode cX1_end 10 = .ok (.putfield 59, 3) := by decide +kernel
theorem dX1_end_13 : decode cX1_end 13 = .ok (.aload_n 0, 1) := by decide +kernel
theorem dX1_end_14 : decode cX1_end 14 = .ok (.getfield 74, 3) := by decide +kernel
theorem dX1_end_17 : decode cX1_end 17 = .ok (.ifCond .eq 5, 3) := by decide +kernel
theorem dX1_end_20 : decode cX1_end 20 = .ok (.iconst (-1), 1) := by decide +kernel
theorem dX1_end_21 : decode cX1_end 21 = .ok (.ireturn, 1) := by decide +kernel
theorem dX1_end_22 : decode cX1_end 22 = .ok (.aload_n 0, 1) := by decide +kernel
theorem dX1_end_23 : decode cX1_end 23 = .ok (.getfield 95, 3) := by decide +kernel
theorem dX1_end_26 : decode cX1_end 26 = .ok (.ifCond .eq 10, 3) := by decide +kernel
theorem dX1_end_29 : decode cX1_end 29 = .ok (.iconst 1, 1) := by decide +kernel
theorem dX1_end_30 : decode cX1_end 30 = .ok (.aload_n 0, 1) := by decide +kernel
theorem dX1_end_31 : decode cX1_end 31 = .ok (.getfield 95, 3) := by decide +kernel
theorem dX1_end_34 : decode cX1_end 34 = .ok (.iadd, 1) := by decide +kernel
theorem dX1_end_35 : decode cX1_end 35 = .ok (.ireturn, 1) := by decide +kernel
theorem dX1_end_36 : decode cX1_end 36 = .ok (.aload_n 0, 1) := by decide +kernel
theorem dX1_end_37 : decode cX1_end 37 = .ok (.aload_n 0, 1) := by decide +kernel
theorem dX1_end_38 : decode cX1_end 38 = .ok (.getfield 36, 3) := by decide +kernel
theorem dX1_end_41 : decode cX1_end 41 = .ok (.getfield 117, 3) := by decide +kernel
theorem dX1_end_44 : decode cX1_end 44 = .ok (.putfield 51, 3) := by decide +kernel
theorem dX1_end_47 : decode cX1_end 47 = .ok (.iconst 0, 1) := by decide +kernel
theorem dX1_end_48 : decode cX1_end 48 = .ok (.ireturn, 1) := by decide +kernel
theorem dX1_open_0 : decode cX1_open 0 = .ok (.aload_n 0, 1) := by decide +kernel
theorem dX1_open_1 : decode cX1_open 1 = .ok (.getfield 71, 3) := by decide +kernel
theorem dX1_open_4 : decode cX1_open 4 = .ok (.aload_n 0, 1) := by decide +kernel
theorem dX1_open_5 : decode cX1_open 5 = .ok (.getfield 68, 3) := by decide +kernel
theorem dX1_open_8 : decode cX1_open 8 = .ok (.if_icmp .lt 9, 3) := by decide +kernel
theorem dX1_open_11 : decode cX1_open 11 = .ok (.aload_n 0, 1) := by decide +kernel
theorem dX1_open_12 : decode cX1_open 12 = .ok (.iconst 1, 1) := by decide +kernel
theorem dX1_open_13 : decode cX1_open 13 = .ok (.putfield 74, 3) := by decide +kernel
theorem dX1_open_16 : decode cX1_open 16 = .ok (.return_, 1) := by decide +kernel
theorem dX1_open_17 : decode cX1_open 17 = .ok (.aload_n 0, 1) := by decide +kernel
theorem dX1_open_18 : decode cX1_open 18 = .ok (.dup, 1) := by decide +kernel
theorem dX1_open_19 : decode cX1_open 19 = .ok (.getfield 71, 3) := by decide +kernel
theorem dX1_open_22 : decode cX1_open 22 = .ok (.iconst 1, 1) := by decide +kernel
theorem dX1_open_23 : decode cX1_open 23 = .ok (.iadd, 1) := by decide +kernel
theorem dX1_open_24 : decode cX1_open 24 = .ok (.putfield 71, 3) := by decide +kernel
theorem dX1_open_27 : decode cX1_open 27 = .ok (.aload_n 0, 1) := by decide +kernel
theorem dX1_open_28 : decode cX1_open 28 = .ok (.getfield 40, 3) := by decide +kernel
theorem dX1_open_31 : decode cX1_open 31 = .ok (.getfield 92, 3) := by decide +kernel
theorem dX1_open_34 : decode cX1_open 34 = .ok (.sipush 200, 3) := by decide +kernel
theorem dX1_open_37 : decode cX1_open 37 = .ok (.if_icmp .lt 15, 3) := by decide +kernel
theorem dX1_open_40 : decode cX1_open 40 = .ok (.aload_n 0, 1) := by decide +kernel
theorem dX1_open_41 : decode cX1_open 41 = .ok (.aload_n 1, 1) := by decide +kernel
theorem dX1_open_42 : decode cX1_open 42 = .ok (.getfield 120, 3) := by decide +kernel
theorem dX1_open_45 : decode cX1_open 45 = .ok (.bipush 7, 2) := by decide +kernel
theorem dX1_open_47 : decode cX1_open 47 = .ok (.invokevirtual 85, 3) := by decide +kernel
theorem dX1_open_50 : decode cX1_open 50 = .ok (.pop, 1) := by decide +kernel
theorem dX1_open_51 : decode cX1_open 51 = .ok (.return_, 1) := by decide +kernel
theorem dX1_open_52 : decode cX1_open 52 = .ok (.aload_n 0, 1) := by decide +kernel
theorem dX1_open_53 : decode cX1_open 53 = .ok (.aload_n 0, 1) := by decide +kernel
theorem dX1_open_54 : decode cX1_open 54 = .ok (.getfield 40, 3) := by decide +kernel
theorem dX1_open_57 : decode cX1_open 57 = .ok (.invokevirtual 125, 3) := by decide +kernel
theorem dX1_open_60 : decode cX1_open 60 = .ok (.putfield 40, 3) := by decide +kernel
theorem dX1_open_63 : decode cX1_open 63 = .ok (.aload_n 0, 1) := by decide +kernel
theorem dX1_open_64 : decode cX1_open 64 = .ok (.getfield 40, 3) := by decide +kernel
theorem dX1_open_67 : decode cX1_open 67 = .ok (.aload_n 1, 1) := by decide +kernel
theorem dX1_open_68 : decode cX1_open 68 = .ok (.invokevirtual 81, 3) := by decide +kernel
theorem dX1_open_71 : decode cX1_open 71 = .ok (.return_, 1) := by decide +kernel
theorem dX1_close_0 : decode cX1_close 0 = .ok (.aload_n 0, 1) := by decide +kernel
theorem dX1_close_1 : decode cX1_close 1 = .ok (.getfield 95, 3) := by decide +kernel
theorem dX1_close_4 : decode cX1_close 4 = .ok (.ifCond .ne 19, 3) := by decide +kernel
theorem dX1_close_7 : decode cX1_close 7 = .ok (.aload_n 0, 1) := by decide +kernel
theorem dX1_close_8 : decode cX1_close 8 = .ok (.aload_n 1, 1) := by decide +kernel
theorem dX1_close_9 : decode cX1_close 9 = .ok (.getfield 129, 3) := by decide +kernel
theorem dX1_close_12 : decode cX1_close 12 = .ok (.putfield 40, 3) := by decide +kernel
theorem dX1_close_15 : decode cX1_close 15 = .ok (.aload_n 0, 1) := by decide +kernel
theorem dX1_close_16 : decode cX1_close 16 = .ok (.getfield 40, 3) := by decide +kernel
theorem dX1_close_19 : decode cX1_close 19 = .ok (.aload_n 2, 1) := by decide +kernel
theorem dX1_close_20 : decode cX1_close 20 = .ok (.invokevirtual 132, 3) := by decide +kernel
theorem dX1_close_23 : decode cX1_close 23 = .ok (.return_, 1) := by decide +kernel
theorem dX1_workPart_0 : decode cX1_workPart 0 = .ok (.aload_n 1, 1) := by decide +kernel
theorem dX1_workPart_1 : decode cX1_workPart 1 = .ok (.iload_n 2, 1) := by decide +kernel
theorem dX1_workPart_2 : decode cX1_workPart 2 = .ok (.putfield 136, 3) := by decide +kernel
theorem dX1_workPart_5 : decode cX1_workPart 5 = .ok (.aload_n 0, 1) := by decide +kernel
theorem dX1_workPart_6 : decode cX1_workPart 6 = .ok (.getfield 12, 3) := by decide +kernel
theorem dX1_workPart_9 : decode cX1_workPart 9 = .ok (.aload_n 1, 1) := by decide +kernel
theorem dX1_workPart_10 : decode cX1_workPart 10 = .ok (.getfield 139, 3) := by decide +kernel
theorem dX1_workPart_13 : decode cX1_workPart 13 = .ok (.iload_n 2, 1) := by decide +kernel
theorem dX1_workPart_14 : decode cX1_workPart 14 = .ok (.invokevirtual 143, 3) := by decide +kernel
theorem dX1_workPart_17 : decode cX1_workPart 17 = .ok (.invokevirtual 147, 3) := by decide +kernel
theorem dX1_workPart_20 : decode cX1_workPart 20 = .ok (.astore_n 3, 1) := by decide +kernel
theorem dX1_workPart_21 : decode cX1_workPart 21 = .ok (.aload_n 3, 1) := by decide +kernel
theorem dX1_workPart_22 : decode cX1_workPart 22 = .ok (.ifnonnull 19, 3) := by decide +kernel
theorem dX1_workPart_25 : decode cX1_workPart 25 = .ok (.aload_n 0, 1) := by decide +kernel
theorem dX1_workPart_26 : decode cX1_workPart 26 = .ok (.aload_n 1, 1) := by decide +kernel
theorem dX1_workPart_27 : decode cX1_workPart 27 = .ok (.getfield 139, 3) := by decide +kernel
theorem dX1_workPart_30 : decode cX1_workPart 30 = .ok (.getfield 120, 3) := by decide +kernel
theorem dX1_workPart_33 : decode cX1_workPart 33 = .ok (.iconst 1, 1) := by decide +kernel
theorem dX1_workPart_34 : decode cX1_workPart 34 = .ok (.invokevirtual 85, 3) := by decide +kernel
theorem dX1_workPart_37 : decode cX1_workPart 37 = .ok (.pop, 1) := by decide +kernel
theorem dX1_workPart_38 : decode cX1_workPart 38 = .ok (.goto 8, 3) := by decide +kernel
theorem dX1_workPart_41 : decode cX1_workPart 41 = .ok (.aload_n 0, 1) := by decide +kernel
theorem dX1_workPart_42 : decode cX1_workPart 42 = .ok (.aload_n 3, 1) := by decide +kernel
theorem dX1_workPart_43 : decode cX1_workPart 43 = .ok (.invokevirtual 89, 3) := by decide +kernel
theorem dX1_workPart_46 : decode cX1_workPart 46 = .ok (.return_, 1) := by decide +kernel
theorem dX1_nextPart_0 : decode cX1_nextPart 0 = .ok (.aload_n 1, 1) := by decide +kernel
theorem dX1_nextPart_1 : decode cX1_nextPart 1 = .ok (.getfield 139, 3) := by decide +kernel
theorem dX1_nextPart_4 : decode cX1_nextPart 4 = .ok (.getfield 151, 3) := by decide +kernel
theorem dX1_nextPart_7 : decode cX1_nextPart 7 = .ok (.lookupswitch 59 #[(15, 33), (19, 47), (20, 53)], 33) := by decide +kernel
theorem dX1_nextPart_40 : decode cX1_nextPart 40 = .ok (.aload_n 1, 1) := by decide +kernel
theorem dX1_nextPart_41 : decode cX1_nextPart 41 = .ok (.getfield 136, 3) := by decide +kernel
theorem dX1_nextPart_44 : decode cX1_nextPart 44 = .ok (.iconst (-1), 1) := by decide +kernel
theorem dX1_nextPart_45 : decode cX1_nextPart 45 = .ok (.if_icmp .ne 7, 3) := by decide +kernel
theorem dX1_nextPart_48 : decode cX1_nextPart 48 = .ok (.iconst 0, 1) := by decide +kernel
theorem dX1_nextPart_49 : decode cX1_nextPart 49 = .ok (.goto 4, 3) := by decide +kernel
theorem dX1_nextPart_52 : decode cX1_nextPart 52 = .ok (.iconst 3, 1) := by decide +kernel
theorem dX1_nextPart_53 : decode cX1_nextPart 53 = .ok (.ireturn, 1) := by decide +kernel
theorem dX1_nextPart_54 : decode cX1_nextPart 54 = .ok (.aload_n 0, 1) := by decide +kernel
theorem dX1_nextPart_55 : decode cX1_nextPart 55 = .ok (.aload_n 1, 1) := by decide +kernel
theorem dX1_nextPart_56 : decode cX1_nextPart 56 = .ok (.invokevirtual 154, 3) := by decide +kernel
theorem dX1_nextPart_59 : decode cX1_nextPart 59 = .ok (.ireturn, 1) := by decide +kernel
theorem dX1_nextPart_60 : decode cX1_nextPart 60 = .ok (.aload_n 0, 1) := by decide +kernel
theorem dX1_nextPart_61 : decode cX1_nextPart 61 = .ok (.aload_n 1, 1) := by decide +kernel
theorem dX1_nextPart_62 : decode cX1_nextPart 62 = .ok (.invokevirtual 157, 3) := by decide +kernel
theorem dX1_nextPart_65 : decode cX1_nextPart 65 = .ok (.ireturn, 1) := by decide +kernel
theorem dX1_nextPart_66 : decode cX1_nextPart 66 = .ok (.aload_n 0, 1) := by decide +kernel
theorem dX1_nextPart_67 : decode cX1_nextPart 67 = .ok (.aload_n 1, 1) := by decide +kernel
theorem dX1_nextPart_68 : decode cX1_nextPart 68 = .ok (.invokevirtual 160, 3) := by decide +kernel
theorem dX1_nextPart_71 : decode cX1_nextPart 71 = .ok (.ireturn, 1) := by decide +kernel
theorem dX1_nextInOrder_0 : decode cX1_nextInOrder 0 = .ok (.aload_n 1, 1) := by decide +kernel
theorem dX1_nextInOrder_1 : decode cX1_nextInOrder 1 = .ok (.getfield 136, 3) := by decide +kernel
theorem dX1_nextInOrder_4 : decode cX1_nextInOrder 4 = .ok (.iconst 1, 1) := by decide +kernel
theorem dX1_nextInOrder_5 : decode cX1_nextInOrder 5 = .ok (.iadd, 1) := by decide +kernel
theorem dX1_nextInOrder_6 : decode cX1_nextInOrder 6 = .ok (.istore_n 2, 1) := by decide +kernel
theorem dX1_nextInOrder_7 : decode cX1_nextInOrder 7 = .ok (.iload_n 2, 1) := by decide +kernel
theorem dX1_nextInOrder_8 : decode cX1_nextInOrder 8 = .ok (.iconst 2, 1) := by decide +kernel
theorem dX1_nextInOrder_9 : decode cX1_nextInOrder 9 = .ok (.if_icmp .gt 22, 3) := by decide +kernel
theorem dX1_nextInOrder_12 : decode cX1_nextInOrder 12 = .ok (.aload_n 1, 1) := by decide +kernel
theorem dX1_nextInOrder_13 : decode cX1_nextInOrder 13 = .ok (.getfield 139, 3) := by decide +kernel
theorem dX1_nextInOrder_16 : decode cX1_nextInOrder 16 = .ok (.iload_n 2, 1) := by decide +kernel
theorem dX1_nextInOrder_17 : decode cX1_nextInOrder 17 = .ok (.invokevirtual 163, 3) := by decide +kernel
theorem dX1_nextInOrder_20 : decode cX1_nextInOrder 20 = .ok (.ifCond .eq 5, 3) := by decide +kernel
theorem dX1_nextInOrder_23 : decode cX1_nextInOrder 23 = .ok (.iload_n 2, 1) := by decide +kernel
theorem dX1_nextInOrder_24 : decode cX1_nextInOrder 24 = .ok (.ireturn, 1) := by decide +kernel
theorem dX1_nextInOrder_25 : decode cX1_nextInOrder 25 = .ok (.iinc 2 1, 3) := by decide +kernel
theorem dX1_nextInOrder_28 : decode cX1_nextInOrder 28 = .ok (.goto (-21), 3) := by decide +kernel
theorem dX1_nextInOrder_31 : decode cX1_nextInOrder 31 = .ok (.iconst 3, 1) := by decide +kernel
theorem dX1_nextInOrder_32 : decode cX1_nextInOrder 32 = .ok (.ireturn, 1) := by decide +kernel
theorem dX1_nextOfIf_0 : decode cX1_nextOfIf 0 = .ok (.aload_n 1, 1) := by decide +kernel
theorem dX1_nextOfIf_1 : decode cX1_nextOfIf 1 = .ok (.getfield 136, 3) := by decide +kernel
theorem dX1_nextOfIf_4 : decode cX1_nextOfIf 4 = .ok (.iconst (-1), 1) := by decide +kernel
theorem dX1_nextOfIf_5 : decode cX1_nextOfIf 5 = .ok (.if_icmp .ne 5, 3) := by decide +kernel
theorem dX1_nextOfIf_8 : decode cX1_nextOfIf 8 = .ok (.iconst 0, 1) := by decide +kernel
theorem dX1_nextOfIf_9 : decode cX1_nextOfIf 9 = .ok (.ireturn, 1) := by decide +kernel
theorem dX1_nextOfIf_10 : decode cX1_nextOfIf 10 = .ok (.aload_n 1, 1) := by decide +kernel
theorem dX1_nextOfIf_11 : decode cX1_nextOfIf 11 = .ok (.getfield 136, 3) := by decide +kernel
theorem dX1_nextOfIf_14 : decode cX1_nextOfIf 14 = .ok (.ifCond .ne 16, 3) := by decide +kernel
theorem dX1_nextOfIf_17 : decode cX1_nextOfIf 17 = .ok (.aload_n 0, 1) := by decide +kernel
theorem dX1_nextOfIf_18 : decode cX1_nextOfIf 18 = .ok (.aload_n 1, 1) := by decide +kernel
theorem dX1_nextOfIf_19 : decode cX1_nextOfIf 19 = .ok (.aload_n 1, 1) := by decide +kernel
theorem dX1_nextOfIf_20 : decode cX1_nextOfIf 20 = .ok (.getfield 166, 3) := by decide +kernel
theorem dX1_nextOfIf_23 : decode cX1_nextOfIf 23 = .ok (.iconst 1, 1) := by decide +kernel
theorem dX1_nextOfIf_24 : decode cX1_nextOfIf 24 = .ok (.invokevirtual 169, 3) := by decide +kernel
theorem dX1_nextOfIf_27 : decode cX1_nextOfIf 27 = .ok (.ifCond .eq 5, 3) := by decide +kernel
theorem dX1_nextOfIf_30 : decode cX1_nextOfIf 30 = .ok (.iconst 3, 1) := by decide +kernel
theorem dX1_nextOfIf_31 : decode cX1_nextOfIf 31 = .ok (.ireturn, 1) := by decide +kernel
theorem dX1_nextOfIf_32 : decode cX1_nextOfIf 32 = .ok (.aload_n 1, 1) := by decide +kernel
theorem dX1_nextOfIf_33 : decode cX1_nextOfIf 33 = .ok (.getfield 166, 3) := by decide +kernel
theorem dX1_nextOfIf_36 : decode cX1_nextOfIf 36 = .ok (.getfield 173, 3) := by decide +kernel
theorem dX1_nextOfIf_39 : decode cX1_nextOfIf 39 = .ok (.lconst 0, 1) := by decide +kernel
theorem dX1_nextOfIf_40 : decode cX1_nextOfIf 40 = .ok (.lcmp, 1) := by decide +kernel
theorem dX1_nextOfIf_41 : decode cX1_nextOfIf 41 = .ok (.ifCond .eq 7, 3) := by decide +kernel
theorem dX1_nextOfIf_44 : decode cX1_nextOfIf 44 = .ok (.iconst 1, 1) := by decide +kernel
theorem dX1_nextOfIf_45 : decode cX1_nextOfIf 45 = .ok (.goto 4, 3) := by decide +kernel
theorem dX1_nextOfIf_48 : decode cX1_nextOfIf 48 = .ok (.iconst 2, 1) := by decide +kernel
theorem dX1_nextOfIf_49 : decode cX1_nextOfIf 49 = .ok (.ireturn, 1) := by decide +kernel
theorem dX1_nextOfTimes_0 : decode cX1_nextOfTimes 0 = .ok (.aload_n 1, 1) := by decide +kernel
theorem dX1_nextOfTimes_1 : decode cX1_nextOfTimes 1 = .ok (.getfield 136, 3) := by decide +kernel
theorem dX1_nextOfTimes_4 : decode cX1_nextOfTimes 4 = .ok (.iconst (-1), 1) := by decide +kernel
theorem dX1_nextOfTimes_5 : decode cX1_nextOfTimes 5 = .ok (.if_icmp .ne 5, 3) := by decide +kernel
theorem dX1_nextOfTimes_8 : decode cX1_nextOfTimes 8 = .ok (.iconst 0, 1) := by decide +kernel
theorem dX1_nextOfTimes_9 : decode cX1_nextOfTimes 9 = .ok (.ireturn, 1) := by decide +kernel
theorem dX1_nextOfTimes_10 : decode cX1_nextOfTimes 10 = .ok (.aload_n 1, 1) := by decide +kernel
theorem dX1_nextOfTimes_11 : decode cX1_nextOfTimes 11 = .ok (.getfield 136, 3) := by decide +kernel
theorem dX1_nextOfTimes_14 : decode cX1_nextOfTimes 14 = .ok (.ifCond .ne 34, 3) := by decide +kernel
theorem dX1_nextOfTimes_17 : decode cX1_nextOfTimes 17 = .ok (.aload_n 0, 1) := by decide +kernel
theorem dX1_nextOfTimes_18 : decode cX1_nextOfTimes 18 = .ok (.aload_n 1, 1) := by decide +kernel
theorem dX1_nextOfTimes_19 : decode cX1_nextOfTimes 19 = .ok (.aload_n 1, 1) := by decide +kernel
theorem dX1_nextOfTimes_20 : decode cX1_nextOfTimes 20 = .ok (.getfield 166, 3) := by decide +kernel
theorem dX1_nextOfTimes_23 : decode cX1_nextOfTimes 23 = .ok (.iconst 1, 1) := by decide +kernel
theorem dX1_nextOfTimes_24 : decode cX1_nextOfTimes 24 = .ok (.invokevirtual 169, 3) := by decide +kernel
theorem dX1_nextOfTimes_27 : decode cX1_nextOfTimes 27 = .ok (.ifCond .eq 5, 3) := by decide +kernel
theorem dX1_nextOfTimes_30 : decode cX1_nextOfTimes 30 = .ok (.iconst 3, 1) := by decide +kernel
theorem dX1_nextOfTimes_31 : decode cX1_nextOfTimes 31 = .ok (.ireturn, 1) := by decide +kernel
theorem dX1_nextOfTimes_32 : decode cX1_nextOfTimes 32 = .ok (.aload_n 1, 1) := by decide +kernel
theorem dX1_nextOfTimes_33 : decode cX1_nextOfTimes 33 = .ok (.aload_n 1, 1) := by decide +kernel
theorem dX1_nextOfTimes_34 : decode cX1_nextOfTimes 34 = .ok (.getfield 166, 3) := by decide +kernel
theorem dX1_nextOfTimes_37 : decode cX1_nextOfTimes 37 = .ok (.getfield 173, 3) := by decide +kernel
theorem dX1_nextOfTimes_40 : decode cX1_nextOfTimes 40 = .ok (.putfield 177, 3) := by decide +kernel
theorem dX1_nextOfTimes_43 : decode cX1_nextOfTimes 43 = .ok (.aload_n 1, 1) := by decide +kernel
theorem dX1_nextOfTimes_44 : decode cX1_nextOfTimes 44 = .ok (.aconst_null, 1) := by decide +kernel
theorem dX1_nextOfTimes_45 : decode cX1_nextOfTimes 45 = .ok (.putfield 117, 3) := by decide +kernel
theorem dX1_nextOfTimes_48 : decode cX1_nextOfTimes 48 = .ok (.aload_n 1, 1) := by decide +kernel
theorem dX1_nextOfTimes_49 : decode cX1_nextOfTimes 49 = .ok (.getfield 177, 3) := by decide +kernel
theorem dX1_nextOfTimes_52 : decode cX1_nextOfTimes 52 = .ok (.lconst 1, 1) := by decide +kernel
theorem dX1_nextOfTimes_53 : decode cX1_nextOfTimes 53 = .ok (.lcmp, 1) := by decide +kernel
theorem dX1_nextOfTimes_54 : decode cX1_nextOfTimes 54 = .ok (.ifCond .ge 5, 3) := by decide +kernel
theorem dX1_nextOfTimes_57 : decode cX1_nextOfTimes 57 = .ok (.iconst 3, 1) := by decide +kernel
theorem dX1_nextOfTimes_58 : decode cX1_nextOfTimes 58 = .ok (.ireturn, 1) := by decide +kernel
theorem dX1_nextOfTimes_59 : decode cX1_nextOfTimes 59 = .ok (.aload_n 1, 1) := by decide +kernel
theorem dX1_nextOfTimes_60 : decode cX1_nextOfTimes 60 = .ok (.dup, 1) := by decide +kernel
theorem dX1_nextOfTimes_61 : decode cX1_nextOfTimes 61 = .ok (.getfield 177, 3) := by decide +kernel
theorem dX1_nextOfTimes_64 : decode cX1_nextOfTimes 64 = .ok (.lconst 1, 1) := by decide +kernel
theorem dX1_nextOfTimes_65 : decode cX1_nextOfTimes 65 = .ok (.lsub, 1) := by decide +kernel
theorem dX1_nextOfTimes_66 : decode cX1_nextOfTimes 66 = .ok (.putfield 177, 3) := by decide +kernel
theorem dX1_nextOfTimes_69 : decode cX1_nextOfTimes 69 = .ok (.iconst 1, 1) := by decide +kernel
theorem dX1_nextOfTimes_70 : decode cX1_nextOfTimes 70 = .ok (.ireturn, 1) := by decide +kernel
theorem dX1_passFault_0 : decode cX1_passFault 0 = .ok (.aload_n 0, 1) := by decide +kernel
theorem dX1_passFault_1 : decode cX1_passFault 1 = .ok (.aload_n 1, 1) := by decide +kernel
theorem dX1_passFault_2 : decode cX1_passFault 2 = .ok (.invokevirtual 180, 3) := by decide +kernel
theorem dX1_passFault_5 : decode cX1_passFault 5 = .ok (.ifCond .ne 12, 3) := by decide +kernel
theorem dX1_passFault_8 : decode cX1_passFault 8 = .ok (.aload_n 0, 1) := by decide +kernel
theorem dX1_passFault_9 : decode cX1_passFault 9 = .ok (.aload_n 1, 1) := by decide +kernel
theorem dX1_passFault_10 : decode cX1_passFault 10 = .ok (.getfield 129, 3) := by decide +kernel
theorem dX1_passFault_13 : decode cX1_passFault 13 = .ok (.putfield 40, 3) := by decide +kernel
theorem dX1_passFault_16 : decode cX1_passFault 16 = .ok (.return_, 1) := by decide +kernel
theorem dX1_passFault_17 : decode cX1_passFault 17 = .ok (.aload_n 0, 1) := by decide +kernel
theorem dX1_passFault_18 : decode cX1_passFault 18 = .ok (.getfield 27, 3) := by decide +kernel
theorem dX1_passFault_21 : decode cX1_passFault 21 = .ok (.iconst 0, 1) := by decide +kernel
theorem dX1_passFault_22 : decode cX1_passFault 22 = .ok (.aload_n 0, 1) := by decide +kernel
theorem dX1_passFault_23 : decode cX1_passFault 23 = .ok (.getfield 21, 3) := by decide +kernel
theorem dX1_passFault_26 : decode cX1_passFault 26 = .ok (.iconst 1, 1) := by decide +kernel
theorem dX1_passFault_27 : decode cX1_passFault 27 = .ok (.aload_n 0, 1) := by decide +kernel
theorem dX1_passFault_28 : decode cX1_passFault 28 = .ok (.getfield 95, 3) := by decide +kernel
theorem dX1_passFault_31 : decode cX1_passFault 31 = .ok (.i2l, 1) := by decide +kernel
theorem dX1_passFault_32 : decode cX1_passFault 32 = .ok (.invokevirtual 184, 3) := by decide +kernel
theorem dX1_passFault_35 : decode cX1_passFault 35 = .ok (.aastore, 1) := by decide +kernel
theorem dX1_passFault_36 : decode cX1_passFault 36 = .ok (.aload_n 0, 1) := by decide +kernel
theorem dX1_passFault_37 : decode cX1_passFault 37 = .ok (.invokevirtual 78, 3) := by decide +kernel
theorem dX1_passFault_40 : decode cX1_passFault 40 = .ok (.aload_n 0, 1) := by decide +kernel
theorem dX1_passFault_41 : decode cX1_passFault 41 = .ok (.aload_n 1, 1) := by decide +kernel
theorem dX1_passFault_42 : decode cX1_passFault 42 = .ok (.iconst 2, 1) := by decide +kernel
theorem dX1_passFault_43 : decode cX1_passFault 43 = .ok (.invokevirtual 114, 3) := by decide +kernel
theorem dX1_passFault_46 : decode cX1_passFault 46 = .ok (.return_, 1) := by decide +kernel
theorem dX1_takesFault_0 : decode cX1_takesFault 0 = .ok (.aload_n 1, 1) := by decide +kernel
theorem dX1_takesFault_1 : decode cX1_takesFault 1 = .ok (.getfield 139, 3) := by decide +kernel
theorem dX1_takesFault_4 : decode cX1_takesFault 4 = .ok (.getfield 151, 3) := by decide +kernel
theorem dX1_takesFault_7 : decode cX1_takesFault 7 = .ok (.bipush 15, 2) := by decide +kernel
theorem dX1_takesFault_9 : decode cX1_takesFault 9 = .ok (.if_icmp .ne 10, 3) := by decide +kernel
theorem dX1_takesFault_12 : decode cX1_takesFault 12 = .ok (.aload_n 1, 1) := by decide +kernel
theorem dX1_takesFault_13 : decode cX1_takesFault 13 = .ok (.getfield 136, 3) := by decide +kernel
theorem dX1_takesFault_16 : decode cX1_takesFault 16 = .ok (.ifCond .eq 5, 3) := by decide +kernel
theorem dX1_takesFault_19 : decode cX1_takesFault 19 = .ok (.iconst 0, 1) := by decide +kernel
theorem dX1_takesFault_20 : decode cX1_takesFault 20 = .ok (.ireturn, 1) := by decide +kernel
theorem dX1_takesFault_21 : decode cX1_takesFault 21 = .ok (.aload_n 1, 1) := by decide +kernel
theorem dX1_takesFault_22 : decode cX1_takesFault 22 = .ok (.getfield 139, 3) := by decide +kernel
theorem dX1_takesFault_25 : decode cX1_takesFault 25 = .ok (.iconst 1, 1) := by decide +kernel
theorem dX1_takesFault_26 : decode cX1_takesFault 26 = .ok (.invokevirtual 143, 3) := by decide +kernel
theorem dX1_takesFault_29 : decode cX1_takesFault 29 = .ok (.istore_n 2, 1) := by decide +kernel
theorem dX1_takesFault_30 : decode cX1_takesFault 30 = .ok (.iload_n 2, 1) := by decide +kernel
theorem dX1_takesFault_31 : decode cX1_takesFault 31 = .ok (.ifCond .eq 11, 3) := by decide +kernel
theorem dX1_takesFault_34 : decode cX1_takesFault 34 = .ok (.iload_n 2, 1) := by decide +kernel
theorem dX1_takesFault_35 : decode cX1_takesFault 35 = .ok (.aload_n 0, 1) := by decide +kernel
theorem dX1_takesFault_36 : decode cX1_takesFault 36 = .ok (.getfield 95, 3) := by decide +kernel
theorem dX1_takesFault_39 : decode cX1_takesFault 39 = .ok (.if_icmp .ne 7, 3) := by decide +kernel
theorem dX1_takesFault_42 : decode cX1_takesFault 42 = .ok (.iconst 1, 1) := by decide +kernel
theorem dX1_takesFault_43 : decode cX1_takesFault 43 = .ok (.goto 4, 3) := by decide +kernel
theorem dX1_takesFault_46 : decode cX1_takesFault 46 = .ok (.iconst 0, 1) := by decide +kernel
theorem dX1_takesFault_47 : decode cX1_takesFault 47 = .ok (.ireturn, 1) := by decide +kernel
theorem dX1_clearFault_0 : decode cX1_clearFault 0 = .ok (.aload_n 0, 1) := by decide +kernel
theorem dX1_clearFault_1 : decode cX1_clearFault 1 = .ok (.iconst 0, 1) := by decide +kernel
theorem dX1_clearFault_2 : decode cX1_clearFault 2 = .ok (.putfield 95, 3) := by decide +kernel
theorem dX1_clearFault_5 : decode cX1_clearFault 5 = .ok (.aload_n 0, 1) := by decide +kernel
theorem dX1_clearFault_6 : decode cX1_clearFault 6 = .ok (.iconst (-1), 1) := by decide +kernel
theorem dX1_clearFault_7 : decode cX1_clearFault 7 = .ok (.putfield 43, 3) := by decide +kernel
theorem dX1_clearFault_10 : decode cX1_clearFault 10 = .ok (.return_, 1) := by decide +kernel
theorem dX1_failAt_0 : decode cX1_failAt 0 = .ok (.aload_n 0, 1) := by decide +kernel
theorem dX1_failAt_1 : decode cX1_failAt 1 = .ok (.iload_n 1, 1) := by decide +kernel
end
section
theorem dX1_failAt_2 : decode cX1_failAt 2 = .ok (.putfield 43, 3) := by decide +kernel
theorem dX1_failAt_5 : decode cX1_failAt 5 = .ok (.aload_n 0, 1) := by decide +kernel
theorem dX1_failAt_6 : decode cX1_failAt 6 = .ok (.iload_n 2, 1) := by decide +kernel
theorem dX1_failAt_7 : decode cX1_failAt 7 = .ok (.putfield 95, 3) := by decide +kernel
theorem dX1_failAt_10 : decode cX1_failAt 10 = .ok (.aconst_null, 1) := by decide +kernel
theorem dX1_failAt_11 : decode cX1_failAt 11 = .ok (.areturn, 1) := by decide +kernel
theorem dX1_lacks_0 : decode cX1_lacks 0 = .ok (.aload_n 2, 1) := by decide +kernel
theorem dX1_lacks_1 : decode cX1_lacks 1 = .ok (.ifnonnull 18, 3) := by decide +kernel
theorem dX1_lacks_4 : decode cX1_lacks 4 = .ok (.aload_n 0, 1) := by decide +kernel
theorem dX1_lacks_5 : decode cX1_lacks 5 = .ok (.aload_n 1, 1) := by decide +kernel
theorem dX1_lacks_6 : decode cX1_lacks 6 = .ok (.getfield 139, 3) := by decide +kernel
theorem dX1_lacks_9 : decode cX1_lacks 9 = .ok (.getfield 120, 3) := by decide +kernel
theorem dX1_lacks_12 : decode cX1_lacks 12 = .ok (.iconst 1, 1) := by decide +kernel
theorem dX1_lacks_13 : decode cX1_lacks 13 = .ok (.invokevirtual 85, 3) := by decide +kernel
theorem dX1_lacks_16 : decode cX1_lacks 16 = .ok (.pop, 1) := by decide +kernel
theorem dX1_lacks_17 : decode cX1_lacks 17 = .ok (.iconst 1, 1) := by decide +kernel
theorem dX1_lacks_18 : decode cX1_lacks 18 = .ok (.ireturn, 1) := by decide +kernel
theorem dX1_lacks_19 : decode cX1_lacks 19 = .ok (.aload_n 2, 1) := by decide +kernel
theorem dX1_lacks_20 : decode cX1_lacks 20 = .ok (.iload_n 3, 1) := by decide +kernel
theorem dX1_lacks_21 : decode cX1_lacks 21 = .ok (.invokevirtual 188, 3) := by decide +kernel
theorem dX1_lacks_24 : decode cX1_lacks 24 = .ok (.ifCond .ne 18, 3) := by decide +kernel
theorem dX1_lacks_27 : decode cX1_lacks 27 = .ok (.aload_n 0, 1) := by decide +kernel
theorem dX1_lacks_28 : decode cX1_lacks 28 = .ok (.aload_n 1, 1) := by decide +kernel
theorem dX1_lacks_29 : decode cX1_lacks 29 = .ok (.getfield 139, 3) := by decide +kernel
theorem dX1_lacks_32 : decode cX1_lacks 32 = .ok (.getfield 120, 3) := by decide +kernel
theorem dX1_lacks_35 : decode cX1_lacks 35 = .ok (.iconst 3, 1) := by decide +kernel
theorem dX1_lacks_36 : decode cX1_lacks 36 = .ok (.invokevirtual 85, 3) := by decide +kernel
theorem dX1_lacks_39 : decode cX1_lacks 39 = .ok (.pop, 1) := by decide +kernel
theorem dX1_lacks_40 : decode cX1_lacks 40 = .ok (.iconst 1, 1) := by decide +kernel
theorem dX1_lacks_41 : decode cX1_lacks 41 = .ok (.ireturn, 1) := by decide +kernel
theorem dX1_lacks_42 : decode cX1_lacks 42 = .ok (.iconst 0, 1) := by decide +kernel
theorem dX1_lacks_43 : decode cX1_lacks 43 = .ok (.ireturn, 1) := by decide +kernel
theorem dX1_finish_0 : decode cX1_finish 0 = .ok (.aload_n 1, 1) := by decide +kernel
theorem dX1_finish_1 : decode cX1_finish 1 = .ok (.getfield 139, 3) := by decide +kernel
theorem dX1_finish_4 : decode cX1_finish 4 = .ok (.getfield 151, 3) := by decide +kernel
theorem dX1_finish_7 : decode cX1_finish 7 = .ok (.tableswitch 234 0 17 #[85, 101, 101, 107, 124, 141, 155, 161, 167, 167, 173, 179, 185, 191, 197, 234, 203, 228], 85) := by decide +kernel
theorem dX1_finish_92 : decode cX1_finish 92 = .ok (.aload_n 0, 1) := by decide +kernel
theorem dX1_finish_93 : decode cX1_finish 93 = .ok (.getfield 21, 3) := by decide +kernel
theorem dX1_finish_96 : decode cX1_finish 96 = .ok (.iconst 1, 1) := by decide +kernel
theorem dX1_finish_97 : decode cX1_finish 97 = .ok (.aload_n 1, 1) := by decide +kernel
theorem dX1_finish_98 : decode cX1_finish 98 = .ok (.getfield 139, 3) := by decide +kernel
theorem dX1_finish_101 : decode cX1_finish 101 = .ok (.getfield 191, 3) := by decide +kernel
theorem dX1_finish_104 : decode cX1_finish 104 = .ok (.invokevirtual 184, 3) := by decide +kernel
theorem dX1_finish_107 : decode cX1_finish 107 = .ok (.areturn, 1) := by decide +kernel
theorem dX1_finish_108 : decode cX1_finish 108 = .ok (.aload_n 0, 1) := by decide +kernel
theorem dX1_finish_109 : decode cX1_finish 109 = .ok (.aload_n 1, 1) := by decide +kernel
theorem dX1_finish_110 : decode cX1_finish 110 = .ok (.invokevirtual 194, 3) := by decide +kernel
theorem dX1_finish_113 : decode cX1_finish 113 = .ok (.areturn, 1) := by decide +kernel
theorem dX1_finish_114 : decode cX1_finish 114 = .ok (.aload_n 0, 1) := by decide +kernel
theorem dX1_finish_115 : decode cX1_finish 115 = .ok (.getfield 21, 3) := by decide +kernel
theorem dX1_finish_118 : decode cX1_finish 118 = .ok (.iconst 2, 1) := by decide +kernel
theorem dX1_finish_119 : decode cX1_finish 119 = .ok (.aload_n 1, 1) := by decide +kernel
theorem dX1_finish_120 : decode cX1_finish 120 = .ok (.getfield 166, 3) := by decide +kernel
theorem dX1_finish_123 : decode cX1_finish 123 = .ok (.aload_n 1, 1) := by decide +kernel
theorem dX1_finish_124 : decode cX1_finish 124 = .ok (.getfield 197, 3) := by decide +kernel
theorem dX1_finish_127 : decode cX1_finish 127 = .ok (.invokevirtual 200, 3) := by decide +kernel
theorem dX1_finish_130 : decode cX1_finish 130 = .ok (.areturn, 1) := by decide +kernel
theorem dX1_finish_131 : decode cX1_finish 131 = .ok (.aload_n 0, 1) := by decide +kernel
theorem dX1_finish_132 : decode cX1_finish 132 = .ok (.getfield 21, 3) := by decide +kernel
theorem dX1_finish_135 : decode cX1_finish 135 = .ok (.iconst 3, 1) := by decide +kernel
theorem dX1_finish_136 : decode cX1_finish 136 = .ok (.aload_n 1, 1) := by decide +kernel
theorem dX1_finish_137 : decode cX1_finish 137 = .ok (.getfield 166, 3) := by decide +kernel
theorem dX1_finish_140 : decode cX1_finish 140 = .ok (.aload_n 1, 1) := by decide +kernel
theorem dX1_finish_141 : decode cX1_finish 141 = .ok (.getfield 197, 3) := by decide +kernel
theorem dX1_finish_144 : decode cX1_finish 144 = .ok (.invokevirtual 200, 3) := by decide +kernel
theorem dX1_finish_147 : decode cX1_finish 147 = .ok (.areturn, 1) := by decide +kernel
theorem dX1_finish_148 : decode cX1_finish 148 = .ok (.aload_n 0, 1) := by decide +kernel
theorem dX1_finish_149 : decode cX1_finish 149 = .ok (.getfield 21, 3) := by decide +kernel
theorem dX1_finish_152 : decode cX1_finish 152 = .ok (.iconst 4, 1) := by decide +kernel
theorem dX1_finish_153 : decode cX1_finish 153 = .ok (.aload_n 1, 1) := by decide +kernel
theorem dX1_finish_154 : decode cX1_finish 154 = .ok (.getfield 166, 3) := by decide +kernel
theorem dX1_finish_157 : decode cX1_finish 157 = .ok (.aconst_null, 1) := by decide +kernel
theorem dX1_finish_158 : decode cX1_finish 158 = .ok (.invokevirtual 200, 3) := by decide +kernel
theorem dX1_finish_161 : decode cX1_finish 161 = .ok (.areturn, 1) := by decide +kernel
theorem dX1_finish_162 : decode cX1_finish 162 = .ok (.aload_n 0, 1) := by decide +kernel
theorem dX1_finish_163 : decode cX1_finish 163 = .ok (.aload_n 1, 1) := by decide +kernel
theorem dX1_finish_164 : decode cX1_finish 164 = .ok (.invokevirtual 204, 3) := by decide +kernel
theorem dX1_finish_167 : decode cX1_finish 167 = .ok (.areturn, 1) := by decide +kernel
theorem dX1_finish_168 : decode cX1_finish 168 = .ok (.aload_n 0, 1) := by decide +kernel
theorem dX1_finish_169 : decode cX1_finish 169 = .ok (.aload_n 1, 1) := by decide +kernel
theorem dX1_finish_170 : decode cX1_finish 170 = .ok (.invokevirtual 207, 3) := by decide +kernel
theorem dX1_finish_173 : decode cX1_finish 173 = .ok (.areturn, 1) := by decide +kernel
theorem dX1_finish_174 : decode cX1_finish 174 = .ok (.aload_n 0, 1) := by decide +kernel
theorem dX1_finish_175 : decode cX1_finish 175 = .ok (.aload_n 1, 1) := by decide +kernel
theorem dX1_finish_176 : decode cX1_finish 176 = .ok (.invokevirtual 210, 3) := by decide +kernel
theorem dX1_finish_179 : decode cX1_finish 179 = .ok (.areturn, 1) := by decide +kernel
theorem dX1_finish_180 : decode cX1_finish 180 = .ok (.aload_n 0, 1) := by decide +kernel
theorem dX1_finish_181 : decode cX1_finish 181 = .ok (.aload_n 1, 1) := by decide +kernel
theorem dX1_finish_182 : decode cX1_finish 182 = .ok (.invokevirtual 213, 3) := by decide +kernel
theorem dX1_finish_185 : decode cX1_finish 185 = .ok (.areturn, 1) := by decide +kernel
theorem dX1_finish_186 : decode cX1_finish 186 = .ok (.aload_n 0, 1) := by decide +kernel
theorem dX1_finish_187 : decode cX1_finish 187 = .ok (.aload_n 1, 1) := by decide +kernel
theorem dX1_finish_188 : decode cX1_finish 188 = .ok (.invokevirtual 216, 3) := by decide +kernel
theorem dX1_finish_191 : decode cX1_finish 191 = .ok (.areturn, 1) := by decide +kernel
theorem dX1_finish_192 : decode cX1_finish 192 = .ok (.aload_n 0, 1) := by decide +kernel
theorem dX1_finish_193 : decode cX1_finish 193 = .ok (.aload_n 1, 1) := by decide +kernel
theorem dX1_finish_194 : decode cX1_finish 194 = .ok (.invokevirtual 219, 3) := by decide +kernel
theorem dX1_finish_197 : decode cX1_finish 197 = .ok (.areturn, 1) := by decide +kernel
theorem dX1_finish_198 : decode cX1_finish 198 = .ok (.aload_n 0, 1) := by decide +kernel
theorem dX1_finish_199 : decode cX1_finish 199 = .ok (.aload_n 1, 1) := by decide +kernel
theorem dX1_finish_200 : decode cX1_finish 200 = .ok (.invokevirtual 222, 3) := by decide +kernel
theorem dX1_finish_203 : decode cX1_finish 203 = .ok (.areturn, 1) := by decide +kernel
theorem dX1_finish_204 : decode cX1_finish 204 = .ok (.aload_n 0, 1) := by decide +kernel
theorem dX1_finish_205 : decode cX1_finish 205 = .ok (.aload_n 1, 1) := by decide +kernel
theorem dX1_finish_206 : decode cX1_finish 206 = .ok (.invokevirtual 224, 3) := by decide +kernel
theorem dX1_finish_209 : decode cX1_finish 209 = .ok (.areturn, 1) := by decide +kernel
theorem dX1_finish_210 : decode cX1_finish 210 = .ok (.aload_n 0, 1) := by decide +kernel
theorem dX1_finish_211 : decode cX1_finish 211 = .ok (.aload_n 1, 1) := by decide +kernel
theorem dX1_finish_212 : decode cX1_finish 212 = .ok (.getfield 139, 3) := by decide +kernel
theorem dX1_finish_215 : decode cX1_finish 215 = .ok (.getfield 120, 3) := by decide +kernel
theorem dX1_finish_218 : decode cX1_finish 218 = .ok (.aload_n 0, 1) := by decide +kernel
theorem dX1_finish_219 : decode cX1_finish 219 = .ok (.getfield 55, 3) := by decide +kernel
theorem dX1_finish_222 : decode cX1_finish 222 = .ok (.ifnonnull 7, 3) := by decide +kernel
theorem dX1_finish_225 : decode cX1_finish 225 = .ok (.iconst 1, 1) := by decide +kernel
theorem dX1_finish_226 : decode cX1_finish 226 = .ok (.goto 5, 3) := by decide +kernel
theorem dX1_finish_229 : decode cX1_finish 229 = .ok (.bipush 7, 2) := by decide +kernel
theorem dX1_finish_231 : decode cX1_finish 231 = .ok (.invokevirtual 85, 3) := by decide +kernel
theorem dX1_finish_234 : decode cX1_finish 234 = .ok (.areturn, 1) := by decide +kernel
theorem dX1_finish_235 : decode cX1_finish 235 = .ok (.aload_n 0, 1) := by decide +kernel
theorem dX1_finish_236 : decode cX1_finish 236 = .ok (.aload_n 1, 1) := by decide +kernel
theorem dX1_finish_237 : decode cX1_finish 237 = .ok (.invokevirtual 227, 3) := by decide +kernel
theorem dX1_finish_240 : decode cX1_finish 240 = .ok (.areturn, 1) := by decide +kernel
theorem dX1_finish_241 : decode cX1_finish 241 = .ok (.aload_n 1, 1) := by decide +kernel
theorem dX1_finish_242 : decode cX1_finish 242 = .ok (.getfield 117, 3) := by decide +kernel
theorem dX1_finish_245 : decode cX1_finish 245 = .ok (.areturn, 1) := by decide +kernel
theorem dX1_isSlot_0 : decode cX1_isSlot 0 = .ok (.iload_n 1, 1) := by decide +kernel
theorem dX1_isSlot_1 : decode cX1_isSlot 1 = .ok (.ifCond .lt 14, 3) := by decide +kernel
theorem dX1_isSlot_4 : decode cX1_isSlot 4 = .ok (.iload_n 1, 1) := by decide +kernel
theorem dX1_isSlot_5 : decode cX1_isSlot 5 = .ok (.sipush 256, 3) := by decide +kernel
theorem dX1_isSlot_8 : decode cX1_isSlot 8 = .ok (.if_icmp .ge 7, 3) := by decide +kernel
theorem dX1_isSlot_11 : decode cX1_isSlot 11 = .ok (.iconst 1, 1) := by decide +kernel
theorem dX1_isSlot_12 : decode cX1_isSlot 12 = .ok (.goto 4, 3) := by decide +kernel
theorem dX1_isSlot_15 : decode cX1_isSlot 15 = .ok (.iconst 0, 1) := by decide +kernel
theorem dX1_isSlot_16 : decode cX1_isSlot 16 = .ok (.ireturn, 1) := by decide +kernel
theorem dX1_useSlot_0 : decode cX1_useSlot 0 = .ok (.aload_n 1, 1) := by decide +kernel
theorem dX1_useSlot_1 : decode cX1_useSlot 1 = .ok (.getfield 139, 3) := by decide +kernel
theorem dX1_useSlot_4 : decode cX1_useSlot 4 = .ok (.iconst 0, 1) := by decide +kernel
theorem dX1_useSlot_5 : decode cX1_useSlot 5 = .ok (.invokevirtual 143, 3) := by decide +kernel
theorem dX1_useSlot_8 : decode cX1_useSlot 8 = .ok (.istore_n 2, 1) := by decide +kernel
theorem dX1_useSlot_9 : decode cX1_useSlot 9 = .ok (.aload_n 0, 1) := by decide +kernel
theorem dX1_useSlot_10 : decode cX1_useSlot 10 = .ok (.iload_n 2, 1) := by decide +kernel
theorem dX1_useSlot_11 : decode cX1_useSlot 11 = .ok (.invokevirtual 47, 3) := by decide +kernel
theorem dX1_useSlot_14 : decode cX1_useSlot 14 = .ok (.ifCond .ne 16, 3) := by decide +kernel
theorem dX1_useSlot_17 : decode cX1_useSlot 17 = .ok (.aload_n 0, 1) := by decide +kernel
theorem dX1_useSlot_18 : decode cX1_useSlot 18 = .ok (.aload_n 1, 1) := by decide +kernel
theorem dX1_useSlot_19 : decode cX1_useSlot 19 = .ok (.getfield 139, 3) := by decide +kernel
theorem dX1_useSlot_22 : decode cX1_useSlot 22 = .ok (.getfield 120, 3) := by decide +kernel
theorem dX1_useSlot_25 : decode cX1_useSlot 25 = .ok (.iconst 2, 1) := by decide +kernel
theorem dX1_useSlot_26 : decode cX1_useSlot 26 = .ok (.invokevirtual 85, 3) := by decide +kernel
theorem dX1_useSlot_29 : decode cX1_useSlot 29 = .ok (.areturn, 1) := by decide +kernel
theorem dX1_useSlot_30 : decode cX1_useSlot 30 = .ok (.aload_n 1, 1) := by decide +kernel
theorem dX1_useSlot_31 : decode cX1_useSlot 31 = .ok (.getfield 139, 3) := by decide +kernel
theorem dX1_useSlot_34 : decode cX1_useSlot 34 = .ok (.getfield 151, 3) := by decide +kernel
theorem dX1_useSlot_37 : decode cX1_useSlot 37 = .ok (.iconst 2, 1) := by decide +kernel
theorem dX1_useSlot_38 : decode cX1_useSlot 38 = .ok (.if_icmp .ne 13, 3) := by decide +kernel
theorem dX1_useSlot_41 : decode cX1_useSlot 41 = .ok (.aload_n 0, 1) := by decide +kernel
theorem dX1_useSlot_42 : decode cX1_useSlot 42 = .ok (.getfield 27, 3) := by decide +kernel
theorem dX1_useSlot_45 : decode cX1_useSlot 45 = .ok (.iload_n 2, 1) := by decide +kernel
theorem dX1_useSlot_46 : decode cX1_useSlot 46 = .ok (.aload_n 1, 1) := by decide +kernel
theorem dX1_useSlot_47 : decode cX1_useSlot 47 = .ok (.getfield 197, 3) := by decide +kernel
theorem dX1_useSlot_50 : decode cX1_useSlot 50 = .ok (.aastore, 1) := by decide +kernel
theorem dX1_useSlot_51 : decode cX1_useSlot 51 = .ok (.aload_n 0, 1) := by decide +kernel
theorem dX1_useSlot_52 : decode cX1_useSlot 52 = .ok (.getfield 27, 3) := by decide +kernel
theorem dX1_useSlot_55 : decode cX1_useSlot 55 = .ok (.iload_n 2, 1) := by decide +kernel
theorem dX1_useSlot_56 : decode cX1_useSlot 56 = .ok (.aaload, 1) := by decide +kernel
theorem dX1_useSlot_57 : decode cX1_useSlot 57 = .ok (.areturn, 1) := by decide +kernel
theorem dX1_field_0 : decode cX1_field 0 = .ok (.aload_n 0, 1) := by decide +kernel
theorem dX1_field_1 : decode cX1_field 1 = .ok (.aload_n 1, 1) := by decide +kernel
theorem dX1_field_2 : decode cX1_field 2 = .ok (.aload_n 1, 1) := by decide +kernel
theorem dX1_field_3 : decode cX1_field 3 = .ok (.getfield 166, 3) := by decide +kernel
theorem dX1_field_6 : decode cX1_field 6 = .ok (.iconst 2, 1) := by decide +kernel
theorem dX1_field_7 : decode cX1_field 7 = .ok (.invokevirtual 169, 3) := by decide +kernel
theorem dX1_field_10 : decode cX1_field 10 = .ok (.ifCond .eq 5, 3) := by decide +kernel
theorem dX1_field_13 : decode cX1_field 13 = .ok (.aconst_null, 1) := by decide +kernel
theorem dX1_field_14 : decode cX1_field 14 = .ok (.areturn, 1) := by decide +kernel
theorem dX1_field_15 : decode cX1_field 15 = .ok (.aload_n 1, 1) := by decide +kernel
theorem dX1_field_16 : decode cX1_field 16 = .ok (.getfield 139, 3) := by decide +kernel
theorem dX1_field_19 : decode cX1_field 19 = .ok (.iconst 1, 1) := by decide +kernel
theorem dX1_field_20 : decode cX1_field 20 = .ok (.invokevirtual 143, 3) := by decide +kernel
theorem dX1_field_23 : decode cX1_field 23 = .ok (.ifCond .ne 13, 3) := by decide +kernel
theorem dX1_field_26 : decode cX1_field 26 = .ok (.aload_n 1, 1) := by decide +kernel
theorem dX1_field_27 : decode cX1_field 27 = .ok (.getfield 166, 3) := by decide +kernel
theorem dX1_field_30 : decode cX1_field 30 = .ok (.getfield 230, 3) := by decide +kernel
theorem dX1_field_33 : decode cX1_field 33 = .ok (.goto 10, 3) := by decide +kernel
theorem dX1_field_36 : decode cX1_field 36 = .ok (.aload_n 1, 1) := by decide +kernel
theorem dX1_field_37 : decode cX1_field 37 = .ok (.getfield 166, 3) := by decide +kernel
theorem dX1_field_40 : decode cX1_field 40 = .ok (.getfield 233, 3) := by decide +kernel
theorem dX1_field_43 : decode cX1_field 43 = .ok (.areturn, 1) := by decide +kernel
theorem dX1_store_0 : decode cX1_store 0 = .ok (.aload_n 0, 1) := by decide +kernel
theorem dX1_store_1 : decode cX1_store 1 = .ok (.aload_n 1, 1) := by decide +kernel
theorem dX1_store_2 : decode cX1_store 2 = .ok (.aload_n 1, 1) := by decide +kernel
theorem dX1_store_3 : decode cX1_store 3 = .ok (.getfield 166, 3) := by decide +kernel
theorem dX1_store_6 : decode cX1_store 6 = .ok (.iconst 2, 1) := by decide +kernel
theorem dX1_store_7 : decode cX1_store 7 = .ok (.invokevirtual 169, 3) := by decide +kernel
theorem dX1_store_10 : decode cX1_store 10 = .ok (.ifCond .eq 5, 3) := by decide +kernel
theorem dX1_store_13 : decode cX1_store 13 = .ok (.aconst_null, 1) := by decide +kernel
theorem dX1_store_14 : decode cX1_store 14 = .ok (.areturn, 1) := by decide +kernel
theorem dX1_store_15 : decode cX1_store 15 = .ok (.aload_n 1, 1) := by decide +kernel
theorem dX1_store_16 : decode cX1_store 16 = .ok (.getfield 139, 3) := by decide +kernel
theorem dX1_store_19 : decode cX1_store 19 = .ok (.iconst 1, 1) := by decide +kernel
theorem dX1_store_20 : decode cX1_store 20 = .ok (.invokevirtual 143, 3) := by decide +kernel
theorem dX1_store_23 : decode cX1_store 23 = .ok (.ifCond .ne 17, 3) := by decide +kernel
theorem dX1_store_26 : decode cX1_store 26 = .ok (.aload_n 1, 1) := by decide +kernel
theorem dX1_store_27 : decode cX1_store 27 = .ok (.getfield 166, 3) := by decide +kernel
theorem dX1_store_30 : decode cX1_store 30 = .ok (.aload_n 1, 1) := by decide +kernel
theorem dX1_store_31 : decode cX1_store 31 = .ok (.getfield 236, 3) := by decide +kernel
theorem dX1_store_34 : decode cX1_store 34 = .ok (.putfield 230, 3) := by decide +kernel
theorem dX1_store_37 : decode cX1_store 37 = .ok (.goto 14, 3) := by decide +kernel
theorem dX1_store_40 : decode cX1_store 40 = .ok (.aload_n 1, 1) := by decide +kernel
theorem dX1_store_41 : decode cX1_store 41 = .ok (.getfield 166, 3) := by decide +kernel
theorem dX1_store_44 : decode cX1_store 44 = .ok (.aload_n 1, 1) := by decide +kernel
theorem dX1_store_45 : decode cX1_store 45 = .ok (.getfield 236, 3) := by decide +kernel
theorem dX1_store_48 : decode cX1_store 48 = .ok (.putfield 233, 3) := by decide +kernel
theorem dX1_store_51 : decode cX1_store 51 = .ok (.aload_n 1, 1) := by decide +kernel
theorem dX1_store_52 : decode cX1_store 52 = .ok (.getfield 236, 3) := by decide +kernel
theorem dX1_store_55 : decode cX1_store 55 = .ok (.areturn, 1) := by decide +kernel
theorem dX1_side_0 : decode cX1_side 0 = .ok (.aload_n 0, 1) := by decide +kernel
theorem dX1_side_1 : decode cX1_side 1 = .ok (.aload_n 1, 1) := by decide +kernel
theorem dX1_side_2 : decode cX1_side 2 = .ok (.aload_n 1, 1) := by decide +kernel
theorem dX1_side_3 : decode cX1_side 3 = .ok (.getfield 166, 3) := by decide +kernel
theorem dX1_side_6 : decode cX1_side 6 = .ok (.iconst 3, 1) := by decide +kernel
theorem dX1_side_7 : decode cX1_side 7 = .ok (.invokevirtual 169, 3) := by decide +kernel
theorem dX1_side_10 : decode cX1_side 10 = .ok (.ifCond .eq 5, 3) := by decide +kernel
theorem dX1_side_13 : decode cX1_side 13 = .ok (.aconst_null, 1) := by decide +kernel
theorem dX1_side_14 : decode cX1_side 14 = .ok (.areturn, 1) := by decide +kernel
theorem dX1_side_15 : decode cX1_side 15 = .ok (.aload_n 1, 1) := by decide +kernel
theorem dX1_side_16 : decode cX1_side 16 = .ok (.getfield 139, 3) := by decide +kernel
theorem dX1_side_19 : decode cX1_side 19 = .ok (.getfield 151, 3) := by decide +kernel
theorem dX1_side_22 : decode cX1_side 22 = .ok (.bipush 8, 2) := by decide +kernel
theorem dX1_side_24 : decode cX1_side 24 = .ok (.if_icmp .ne 13, 3) := by decide +kernel
theorem dX1_side_27 : decode cX1_side 27 = .ok (.aload_n 1, 1) := by decide +kernel
theorem dX1_side_28 : decode cX1_side 28 = .ok (.getfield 166, 3) := by decide +kernel
theorem dX1_side_31 : decode cX1_side 31 = .ok (.getfield 230, 3) := by decide +kernel
theorem dX1_side_34 : decode cX1_side 34 = .ok (.goto 10, 3) := by decide +kernel
theorem dX1_side_37 : decode cX1_side 37 = .ok (.aload_n 1, 1) := by decide +kernel
theorem dX1_side_38 : decode cX1_side 38 = .ok (.getfield 166, 3) := by decide +kernel
theorem dX1_side_41 : decode cX1_side 41 = .ok (.getfield 233, 3) := by decide +kernel
theorem dX1_side_44 : decode cX1_side 44 = .ok (.areturn, 1) := by decide +kernel
theorem dX1_send_0 : decode cX1_send 0 = .ok (.aload_n 0, 1) := by decide +kernel
theorem dX1_send_1 : decode cX1_send 1 = .ok (.aload_n 1, 1) := by decide +kernel
theorem dX1_send_2 : decode cX1_send 2 = .ok (.aload_n 1, 1) := by decide +kernel
theorem dX1_send_3 : decode cX1_send 3 = .ok (.getfield 166, 3) := by decide +kernel
theorem dX1_send_6 : decode cX1_send 6 = .ok (.iconst 4, 1) := by decide +kernel
theorem dX1_send_7 : decode cX1_send 7 = .ok (.invokevirtual 169, 3) := by decide +kernel
theorem dX1_send_10 : decode cX1_send 10 = .ok (.ifCond .eq 5, 3) := by decide +kernel
theorem dX1_send_13 : decode cX1_send 13 = .ok (.aconst_null, 1) := by decide +kernel
theorem dX1_send_14 : decode cX1_send 14 = .ok (.areturn, 1) := by decide +kernel
theorem dX1_send_15 : decode cX1_send 15 = .ok (.aload_n 1, 1) := by decide +kernel
theorem dX1_send_16 : decode cX1_send 16 = .ok (.getfield 166, 3) := by decide +kernel
theorem dX1_send_19 : decode cX1_send 19 = .ok (.getfield 230, 3) := by decide +kernel
theorem dX1_send_22 : decode cX1_send 22 = .ok (.astore_n 2, 1) := by decide +kernel
theorem dX1_send_23 : decode cX1_send 23 = .ok (.aload_n 1, 1) := by decide +kernel
theorem dX1_send_24 : decode cX1_send 24 = .ok (.getfield 139, 3) := by decide +kernel
theorem dX1_send_27 : decode cX1_send 27 = .ok (.iconst 1, 1) := by decide +kernel
theorem dX1_send_28 : decode cX1_send 28 = .ok (.invokevirtual 143, 3) := by decide +kernel
theorem dX1_send_31 : decode cX1_send 31 = .ok (.istore_n 3, 1) := by decide +kernel
theorem dX1_send_32 : decode cX1_send 32 = .ok (.iload_n 3, 1) := by decide +kernel
theorem dX1_send_33 : decode cX1_send 33 = .ok (.tableswitch 92 0 7 #[47, 49, 62, 62, 62, 62, 62, 70], 47) := by decide +kernel
theorem dX1_send_80 : decode cX1_send 80 = .ok (.aload_n 2, 1) := by decide +kernel
theorem dX1_send_81 : decode cX1_send 81 = .ok (.areturn, 1) := by decide +kernel
theorem dX1_send_82 : decode cX1_send 82 = .ok (.aload_n 1, 1) := by decide +kernel
theorem dX1_send_83 : decode cX1_send 83 = .ok (.getfield 166, 3) := by decide +kernel
theorem dX1_send_86 : decode cX1_send 86 = .ok (.aload_n 1, 1) := by decide +kernel
theorem dX1_send_87 : decode cX1_send 87 = .ok (.getfield 236, 3) := by decide +kernel
theorem dX1_send_90 : decode cX1_send 90 = .ok (.putfield 230, 3) := by decide +kernel
theorem dX1_send_93 : decode cX1_send 93 = .ok (.aload_n 2, 1) := by decide +kernel
theorem dX1_send_94 : decode cX1_send 94 = .ok (.areturn, 1) := by decide +kernel
theorem dX1_send_95 : decode cX1_send 95 = .ok (.aload_n 0, 1) := by decide +kernel
theorem dX1_send_96 : decode cX1_send 96 = .ok (.aload_n 1, 1) := by decide +kernel
theorem dX1_send_97 : decode cX1_send 97 = .ok (.iload_n 3, 1) := by decide +kernel
theorem dX1_send_98 : decode cX1_send 98 = .ok (.aload_n 2, 1) := by decide +kernel
theorem dX1_send_99 : decode cX1_send 99 = .ok (.invokevirtual 239, 3) := by decide +kernel
theorem dX1_send_102 : decode cX1_send 102 = .ok (.areturn, 1) := by decide +kernel
theorem dX1_send_103 : decode cX1_send 103 = .ok (.aload_n 0, 1) := by decide +kernel
theorem dX1_send_104 : decode cX1_send 104 = .ok (.getfield 21, 3) := by decide +kernel
theorem dX1_send_107 : decode cX1_send 107 = .ok (.iconst 1, 1) := by decide +kernel
theorem dX1_send_108 : decode cX1_send 108 = .ok (.aload_n 2, 1) := by decide +kernel
theorem dX1_send_109 : decode cX1_send 109 = .ok (.aload_n 1, 1) := by decide +kernel
theorem dX1_send_110 : decode cX1_send 110 = .ok (.getfield 236, 3) := by decide +kernel
theorem dX1_send_113 : decode cX1_send 113 = .ok (.if_acmp .ne 7, 3) := by decide +kernel
theorem dX1_send_116 : decode cX1_send 116 = .ok (.lconst 1, 1) := by decide +kernel
theorem dX1_send_117 : decode cX1_send 117 = .ok (.goto 4, 3) := by decide +kernel
theorem dX1_send_120 : decode cX1_send 120 = .ok (.lconst 0, 1) := by decide +kernel
theorem dX1_send_121 : decode cX1_send 121 = .ok (.invokevirtual 184, 3) := by decide +kernel
theorem dX1_send_124 : decode cX1_send 124 = .ok (.areturn, 1) := by decide +kernel
theorem dX1_send_125 : decode cX1_send 125 = .ok (.aload_n 0, 1) := by decide +kernel
theorem dX1_send_126 : decode cX1_send 126 = .ok (.getfield 21, 3) := by decide +kernel
theorem dX1_send_129 : decode cX1_send 129 = .ok (.iconst 1, 1) := by decide +kernel
theorem dX1_send_130 : decode cX1_send 130 = .ok (.lconst 0, 1) := by decide +kernel
theorem dX1_send_131 : decode cX1_send 131 = .ok (.invokevirtual 184, 3) := by decide +kernel
theorem dX1_send_134 : decode cX1_send 134 = .ok (.areturn, 1) := by decide +kernel
theorem dX1_reckon_0 : decode cX1_reckon 0 = .ok (.aload_n 0, 1) := by decide +kernel
theorem dX1_reckon_1 : decode cX1_reckon 1 = .ok (.aload_n 1, 1) := by decide +kernel
theorem dX1_reckon_2 : decode cX1_reckon 2 = .ok (.aload_n 3, 1) := by decide +kernel
theorem dX1_reckon_3 : decode cX1_reckon 3 = .ok (.iconst 1, 1) := by decide +kernel
theorem dX1_reckon_4 : decode cX1_reckon 4 = .ok (.invokevirtual 169, 3) := by decide +kernel
theorem dX1_reckon_7 : decode cX1_reckon 7 = .ok (.ifCond .ne 16, 3) := by decide +kernel
theorem dX1_reckon_10 : decode cX1_reckon 10 = .ok (.aload_n 0, 1) := by decide +kernel
theorem dX1_reckon_11 : decode cX1_reckon 11 = .ok (.aload_n 1, 1) := by decide +kernel
theorem dX1_reckon_12 : decode cX1_reckon 12 = .ok (.aload_n 1, 1) := by decide +kernel
theorem dX1_reckon_13 : decode cX1_reckon 13 = .ok (.getfield 236, 3) := by decide +kernel
theorem dX1_reckon_16 : decode cX1_reckon 16 = .ok (.iconst 1, 1) := by decide +kernel
theorem dX1_reckon_17 : decode cX1_reckon 17 = .ok (.invokevirtual 169, 3) := by decide +kernel
theorem dX1_reckon_20 : decode cX1_reckon 20 = .ok (.ifCond .eq 5, 3) := by decide +kernel
theorem dX1_reckon_23 : decode cX1_reckon 23 = .ok (.aconst_null, 1) := by decide +kernel
theorem dX1_reckon_24 : decode cX1_reckon 24 = .ok (.areturn, 1) := by decide +kernel
theorem dX1_reckon_25 : decode cX1_reckon 25 = .ok (.aload_n 3, 1) := by decide +kernel
theorem dX1_reckon_26 : decode cX1_reckon 26 = .ok (.getfield 173, 3) := by decide +kernel
theorem dX1_reckon_29 : decode cX1_reckon 29 = .ok (.lstore 4, 2) := by decide +kernel
theorem dX1_reckon_31 : decode cX1_reckon 31 = .ok (.aload_n 1, 1) := by decide +kernel
theorem dX1_reckon_32 : decode cX1_reckon 32 = .ok (.getfield 236, 3) := by decide +kernel
theorem dX1_reckon_35 : decode cX1_reckon 35 = .ok (.getfield 173, 3) := by decide +kernel
theorem dX1_reckon_38 : decode cX1_reckon 38 = .ok (.lstore 6, 2) := by decide +kernel
theorem dX1_reckon_40 : decode cX1_reckon 40 = .ok (.iload_n 2, 1) := by decide +kernel
theorem dX1_reckon_41 : decode cX1_reckon 41 = .ok (.tableswitch 69 2 4 #[27, 41, 55], 27) := by decide +kernel
theorem dX1_reckon_68 : decode cX1_reckon 68 = .ok (.aload_n 0, 1) := by decide +kernel
theorem dX1_reckon_69 : decode cX1_reckon 69 = .ok (.getfield 21, 3) := by decide +kernel
theorem dX1_reckon_72 : decode cX1_reckon 72 = .ok (.iconst 1, 1) := by decide +kernel
theorem dX1_reckon_73 : decode cX1_reckon 73 = .ok (.lload 4, 2) := by decide +kernel
theorem dX1_reckon_75 : decode cX1_reckon 75 = .ok (.lload 6, 2) := by decide +kernel
theorem dX1_reckon_77 : decode cX1_reckon 77 = .ok (.ladd, 1) := by decide +kernel
theorem dX1_reckon_78 : decode cX1_reckon 78 = .ok (.invokevirtual 184, 3) := by decide +kernel
theorem dX1_reckon_81 : decode cX1_reckon 81 = .ok (.areturn, 1) := by decide +kernel
theorem dX1_reckon_82 : decode cX1_reckon 82 = .ok (.aload_n 0, 1) := by decide +kernel
theorem dX1_reckon_83 : decode cX1_reckon 83 = .ok (.getfield 21, 3) := by decide +kernel
theorem dX1_reckon_86 : decode cX1_reckon 86 = .ok (.iconst 1, 1) := by decide +kernel
theorem dX1_reckon_87 : decode cX1_reckon 87 = .ok (.lload 4, 2) := by decide +kernel
theorem dX1_reckon_89 : decode cX1_reckon 89 = .ok (.lload 6, 2) := by decide +kernel
theorem dX1_reckon_91 : decode cX1_reckon 91 = .ok (.lsub, 1) := by decide +kernel
theorem dX1_reckon_92 : decode cX1_reckon 92 = .ok (.invokevirtual 184, 3) := by decide +kernel
theorem dX1_reckon_95 : decode cX1_reckon 95 = .ok (.areturn, 1) := by decide +kernel
theorem dX1_reckon_96 : decode cX1_reckon 96 = .ok (.aload_n 0, 1) := by decide +kernel
theorem dX1_reckon_97 : decode cX1_reckon 97 = .ok (.getfield 21, 3) := by decide +kernel
theorem dX1_reckon_100 : decode cX1_reckon 100 = .ok (.iconst 1, 1) := by decide +kernel
theorem dX1_reckon_101 : decode cX1_reckon 101 = .ok (.lload 4, 2) := by decide +kernel
theorem dX1_reckon_103 : decode cX1_reckon 103 = .ok (.lload 6, 2) := by decide +kernel
theorem dX1_reckon_105 : decode cX1_reckon 105 = .ok (.lmul, 1) := by decide +kernel
theorem dX1_reckon_106 : decode cX1_reckon 106 = .ok (.invokevirtual 184, 3) := by decide +kernel
theorem dX1_reckon_109 : decode cX1_reckon 109 = .ok (.areturn, 1) := by decide +kernel
theorem dX1_reckon_110 : decode cX1_reckon 110 = .ok (.lload 6, 2) := by decide +kernel
theorem dX1_reckon_112 : decode cX1_reckon 112 = .ok (.lconst 0, 1) := by decide +kernel
theorem dX1_reckon_113 : decode cX1_reckon 113 = .ok (.lcmp, 1) := by decide +kernel
theorem dX1_reckon_114 : decode cX1_reckon 114 = .ok (.ifCond .ne 17, 3) := by decide +kernel
theorem dX1_reckon_117 : decode cX1_reckon 117 = .ok (.aload_n 0, 1) := by decide +kernel
theorem dX1_reckon_118 : decode cX1_reckon 118 = .ok (.aload_n 1, 1) := by decide +kernel
theorem dX1_reckon_119 : decode cX1_reckon 119 = .ok (.getfield 139, 3) := by decide +kernel
theorem dX1_reckon_122 : decode cX1_reckon 122 = .ok (.getfield 120, 3) := by decide +kernel
theorem dX1_reckon_125 : decode cX1_reckon 125 = .ok (.bipush 6, 2) := by decide +kernel
theorem dX1_reckon_127 : decode cX1_reckon 127 = .ok (.invokevirtual 85, 3) := by decide +kernel
theorem dX1_reckon_130 : decode cX1_reckon 130 = .ok (.areturn, 1) := by decide +kernel
theorem dX1_reckon_131 : decode cX1_reckon 131 = .ok (.aload_n 0, 1) := by decide +kernel
theorem dX1_reckon_132 : decode cX1_reckon 132 = .ok (.getfield 21, 3) := by decide +kernel
theorem dX1_reckon_135 : decode cX1_reckon 135 = .ok (.iconst 1, 1) := by decide +kernel
theorem dX1_reckon_136 : decode cX1_reckon 136 = .ok (.iload_n 2, 1) := by decide +kernel
theorem dX1_reckon_137 : decode cX1_reckon 137 = .ok (.iconst 5, 1) := by decide +kernel
theorem dX1_reckon_138 : decode cX1_reckon 138 = .ok (.if_icmp .ne 11, 3) := by decide +kernel
theorem dX1_reckon_141 : decode cX1_reckon 141 = .ok (.lload 4, 2) := by decide +kernel
theorem dX1_reckon_143 : decode cX1_reckon 143 = .ok (.lload 6, 2) := by decide +kernel
theorem dX1_reckon_145 : decode cX1_reckon 145 = .ok (.ldiv, 1) := by decide +kernel
theorem dX1_reckon_146 : decode cX1_reckon 146 = .ok (.goto 8, 3) := by decide +kernel
theorem dX1_reckon_149 : decode cX1_reckon 149 = .ok (.lload 4, 2) := by decide +kernel
theorem dX1_reckon_151 : decode cX1_reckon 151 = .ok (.lload 6, 2) := by decide +kernel
theorem dX1_reckon_153 : decode cX1_reckon 153 = .ok (.lrem, 1) := by decide +kernel
theorem dX1_reckon_154 : decode cX1_reckon 154 = .ok (.invokevirtual 184, 3) := by decide +kernel
theorem dX1_reckon_157 : decode cX1_reckon 157 = .ok (.areturn, 1) := by decide +kernel
theorem dX1_row_0 : decode cX1_row 0 = .ok (.aload_n 0, 1) := by decide +kernel
theorem dX1_row_1 : decode cX1_row 1 = .ok (.aload_n 1, 1) := by decide +kernel
theorem dX1_row_2 : decode cX1_row 2 = .ok (.aload_n 1, 1) := by decide +kernel
theorem dX1_row_3 : decode cX1_row 3 = .ok (.getfield 197, 3) := by decide +kernel
theorem dX1_row_6 : decode cX1_row 6 = .ok (.iconst 1, 1) := by decide +kernel
theorem dX1_row_7 : decode cX1_row 7 = .ok (.invokevirtual 169, 3) := by decide +kernel
theorem dX1_row_10 : decode cX1_row 10 = .ok (.ifCond .eq 5, 3) := by decide +kernel
theorem dX1_row_13 : decode cX1_row 13 = .ok (.aconst_null, 1) := by decide +kernel
theorem dX1_row_14 : decode cX1_row 14 = .ok (.areturn, 1) := by decide +kernel
theorem dX1_row_15 : decode cX1_row 15 = .ok (.aload_n 1, 1) := by decide +kernel
theorem dX1_row_16 : decode cX1_row 16 = .ok (.getfield 139, 3) := by decide +kernel
theorem dX1_row_19 : decode cX1_row 19 = .ok (.iconst 0, 1) := by decide +kernel
theorem dX1_row_20 : decode cX1_row 20 = .ok (.invokevirtual 143, 3) := by decide +kernel
theorem dX1_row_23 : decode cX1_row 23 = .ok (.istore_n 2, 1) := by decide +kernel
theorem dX1_row_24 : decode cX1_row 24 = .ok (.iload_n 2, 1) := by decide +kernel
theorem dX1_row_25 : decode cX1_row 25 = .ok (.ifCond .lt 8, 3) := by decide +kernel
theorem dX1_row_28 : decode cX1_row 28 = .ok (.iload_n 2, 1) := by decide +kernel
theorem dX1_row_29 : decode cX1_row 29 = .ok (.iconst 2, 1) := by decide +kernel
theorem dX1_row_30 : decode cX1_row 30 = .ok (.if_icmp .le 11, 3) := by decide +kernel
theorem dX1_row_33 : decode cX1_row 33 = .ok (.aload_n 0, 1) := by decide +kernel
theorem dX1_row_34 : decode cX1_row 34 = .ok (.getfield 21, 3) := by decide +kernel
theorem dX1_row_37 : decode cX1_row 37 = .ok (.invokevirtual 243, 3) := by decide +kernel
theorem dX1_row_40 : decode cX1_row 40 = .ok (.areturn, 1) := by decide +kernel
theorem dX1_row_41 : decode cX1_row 41 = .ok (.aload_n 1, 1) := by decide +kernel
theorem dX1_row_42 : decode cX1_row 42 = .ok (.getfield 197, 3) := by decide +kernel
theorem dX1_row_45 : decode cX1_row 45 = .ok (.getfield 173, 3) := by decide +kernel
theorem dX1_row_48 : decode cX1_row 48 = .ok (.l2i, 1) := by decide +kernel
theorem dX1_row_49 : decode cX1_row 49 = .ok (.istore_n 3, 1) := by decide +kernel
theorem dX1_row_50 : decode cX1_row 50 = .ok (.iload_n 3, 1) := by decide +kernel
theorem dX1_row_51 : decode cX1_row 51 = .ok (.ifCond .ge 16, 3) := by decide +kernel
theorem dX1_row_54 : decode cX1_row 54 = .ok (.aload_n 0, 1) := by decide +kernel
theorem dX1_row_55 : decode cX1_row 55 = .ok (.aload_n 1, 1) := by decide +kernel
theorem dX1_row_56 : decode cX1_row 56 = .ok (.getfield 139, 3) := by decide +kernel
theorem dX1_row_59 : decode cX1_row 59 = .ok (.getfield 120, 3) := by decide +kernel
theorem dX1_row_62 : decode cX1_row 62 = .ok (.iconst 5, 1) := by decide +kernel
theorem dX1_row_63 : decode cX1_row 63 = .ok (.invokevirtual 85, 3) := by decide +kernel
theorem dX1_row_66 : decode cX1_row 66 = .ok (.areturn, 1) := by decide +kernel
theorem dX1_row_67 : decode cX1_row 67 = .ok (.aload_n 0, 1) := by decide +kernel
theorem dX1_row_68 : decode cX1_row 68 = .ok (.getfield 21, 3) := by decide +kernel
theorem dX1_row_71 : decode cX1_row 71 = .ok (.iload_n 3, 1) := by decide +kernel
theorem dX1_row_72 : decode cX1_row 72 = .ok (.invokevirtual 247, 3) := by decide +kernel
theorem dX1_row_75 : decode cX1_row 75 = .ok (.ifCond .ne 17, 3) := by decide +kernel
theorem dX1_row_78 : decode cX1_row 78 = .ok (.aload_n 0, 1) := by decide +kernel
theorem dX1_row_79 : decode cX1_row 79 = .ok (.aload_n 1, 1) := by decide +kernel
theorem dX1_row_80 : decode cX1_row 80 = .ok (.getfield 139, 3) := by decide +kernel
theorem dX1_row_83 : decode cX1_row 83 = .ok (.getfield 120, 3) := by decide +kernel
theorem dX1_row_86 : decode cX1_row 86 = .ok (.bipush 8, 2) := by decide +kernel
theorem dX1_row_88 : decode cX1_row 88 = .ok (.invokevirtual 85, 3) := by decide +kernel
theorem dX1_row_91 : decode cX1_row 91 = .ok (.areturn, 1) := by decide +kernel
theorem dX1_row_92 : decode cX1_row 92 = .ok (.aload_n 0, 1) := by decide +kernel
theorem dX1_row_93 : decode cX1_row 93 = .ok (.getfield 21, 3) := by decide +kernel
theorem dX1_row_96 : decode cX1_row 96 = .ok (.iload_n 2, 1) := by decide +kernel
theorem dX1_row_97 : decode cX1_row 97 = .ok (.iload_n 3, 1) := by decide +kernel
theorem dX1_row_98 : decode cX1_row 98 = .ok (.invokevirtual 250, 3) := by decide +kernel
theorem dX1_row_101 : decode cX1_row 101 = .ok (.areturn, 1) := by decide +kernel
theorem dX1_lacksPlace_0 : decode cX1_lacksPlace 0 = .ok (.aload_n 0, 1) := by decide +kernel
theorem dX1_lacksPlace_1 : decode cX1_lacksPlace 1 = .ok (.aload_n 1, 1) := by decide +kernel
theorem dX1_lacksPlace_2 : decode cX1_lacksPlace 2 = .ok (.aload_n 1, 1) := by decide +kernel
theorem dX1_lacksPlace_3 : decode cX1_lacksPlace 3 = .ok (.getfield 166, 3) := by decide +kernel
theorem dX1_lacksPlace_6 : decode cX1_lacksPlace 6 = .ok (.iconst 5, 1) := by decide +kernel
theorem dX1_lacksPlace_7 : decode cX1_lacksPlace 7 = .ok (.invokevirtual 169, 3) := by decide +kernel
theorem dX1_lacksPlace_10 : decode cX1_lacksPlace 10 = .ok (.ifCond .ne 16, 3) := by decide +kernel
theorem dX1_lacksPlace_13 : decode cX1_lacksPlace 13 = .ok (.aload_n 0, 1) := by decide +kernel
theorem dX1_lacksPlace_14 : decode cX1_lacksPlace 14 = .ok (.aload_n 1, 1) := by decide +kernel
theorem dX1_lacksPlace_15 : decode cX1_lacksPlace 15 = .ok (.aload_n 1, 1) := by decide +kernel
theorem dX1_lacksPlace_16 : decode cX1_lacksPlace 16 = .ok (.getfield 197, 3) := by decide +kernel
theorem dX1_lacksPlace_19 : decode cX1_lacksPlace 19 = .ok (.iconst 1, 1) := by decide +kernel
theorem dX1_lacksPlace_20 : decode cX1_lacksPlace 20 = .ok (.invokevirtual 169, 3) := by decide +kernel
theorem dX1_lacksPlace_23 : decode cX1_lacksPlace 23 = .ok (.ifCond .eq 5, 3) := by decide +kernel
theorem dX1_lacksPlace_26 : decode cX1_lacksPlace 26 = .ok (.iconst 1, 1) := by decide +kernel
theorem dX1_lacksPlace_27 : decode cX1_lacksPlace 27 = .ok (.ireturn, 1) := by decide +kernel
theorem dX1_lacksPlace_28 : decode cX1_lacksPlace 28 = .ok (.aload_n 1, 1) := by decide +kernel
theorem dX1_lacksPlace_29 : decode cX1_lacksPlace 29 = .ok (.getfield 166, 3) := by decide +kernel
theorem dX1_lacksPlace_32 : decode cX1_lacksPlace 32 = .ok (.aload_n 1, 1) := by decide +kernel
theorem dX1_lacksPlace_33 : decode cX1_lacksPlace 33 = .ok (.getfield 197, 3) := by decide +kernel
theorem dX1_lacksPlace_36 : decode cX1_lacksPlace 36 = .ok (.getfield 173, 3) := by decide +kernel
theorem dX1_lacksPlace_39 : decode cX1_lacksPlace 39 = .ok (.l2i, 1) := by decide +kernel
theorem dX1_lacksPlace_40 : decode cX1_lacksPlace 40 = .ok (.invokevirtual 252, 3) := by decide +kernel
theorem dX1_lacksPlace_43 : decode cX1_lacksPlace 43 = .ok (.ifCond .eq 5, 3) := by decide +kernel
theorem dX1_lacksPlace_46 : decode cX1_lacksPlace 46 = .ok (.iconst 0, 1) := by decide +kernel
theorem dX1_lacksPlace_47 : decode cX1_lacksPlace 47 = .ok (.ireturn, 1) := by decide +kernel
theorem dX1_lacksPlace_48 : decode cX1_lacksPlace 48 = .ok (.aload_n 0, 1) := by decide +kernel
theorem dX1_lacksPlace_49 : decode cX1_lacksPlace 49 = .ok (.aload_n 1, 1) := by decide +kernel
theorem dX1_lacksPlace_50 : decode cX1_lacksPlace 50 = .ok (.getfield 139, 3) := by decide +kernel
theorem dX1_lacksPlace_53 : decode cX1_lacksPlace 53 = .ok (.getfield 120, 3) := by decide +kernel
theorem dX1_lacksPlace_56 : decode cX1_lacksPlace 56 = .ok (.aload_n 1, 1) := by decide +kernel
theorem dX1_lacksPlace_57 : decode cX1_lacksPlace 57 = .ok (.getfield 166, 3) := by decide +kernel
theorem dX1_lacksPlace_60 : decode cX1_lacksPlace 60 = .ok (.getfield 255, 3) := by decide +kernel
theorem dX1_lacksPlace_63 : decode cX1_lacksPlace 63 = .ok (.ifnonnull 7, 3) := by decide +kernel
theorem dX1_lacksPlace_66 : decode cX1_lacksPlace 66 = .ok (.iconst 1, 1) := by decide +kernel
theorem dX1_lacksPlace_67 : decode cX1_lacksPlace 67 = .ok (.goto 4, 3) := by decide +kernel
theorem dX1_lacksPlace_70 : decode cX1_lacksPlace 70 = .ok (.iconst 2, 1) := by decide +kernel
theorem dX1_lacksPlace_71 : decode cX1_lacksPlace 71 = .ok (.invokevirtual 85, 3) := by decide +kernel
theorem dX1_lacksPlace_74 : decode cX1_lacksPlace 74 = .ok (.pop, 1) := by decide +kernel
theorem dX1_lacksPlace_75 : decode cX1_lacksPlace 75 = .ok (.iconst 1, 1) := by decide +kernel
theorem dX1_lacksPlace_76 : decode cX1_lacksPlace 76 = .ok (.ireturn, 1) := by decide +kernel
theorem dX1_put_0 : decode cX1_put 0 = .ok (.aload_n 0, 1) := by decide +kernel
theorem dX1_put_1 : decode cX1_put 1 = .ok (.aload_n 1, 1) := by decide +kernel
theorem dX1_put_2 : decode cX1_put 2 = .ok (.invokevirtual 258, 3) := by decide +kernel
theorem dX1_put_5 : decode cX1_put 5 = .ok (.ifCond .eq 5, 3) := by decide +kernel
theorem dX1_put_8 : decode cX1_put 8 = .ok (.aconst_null, 1) := by decide +kernel
theorem dX1_put_9 : decode cX1_put 9 = .ok (.areturn, 1) := by decide +kernel
theorem dX1_put_10 : decode cX1_put 10 = .ok (.aload_n 1, 1) := by decide +kernel
theorem dX1_put_11 : decode cX1_put 11 = .ok (.getfield 166, 3) := by decide +kernel
theorem dX1_put_14 : decode cX1_put 14 = .ok (.aload_n 1, 1) := by decide +kernel
theorem dX1_put_15 : decode cX1_put 15 = .ok (.getfield 236, 3) := by decide +kernel
theorem dX1_put_18 : decode cX1_put 18 = .ok (.invokevirtual 261, 3) := by decide +kernel
theorem dX1_put_21 : decode cX1_put 21 = .ok (.ifCond .ne 16, 3) := by decide +kernel
theorem dX1_put_24 : decode cX1_put 24 = .ok (.aload_n 0, 1) := by decide +kernel
theorem dX1_put_25 : decode cX1_put 25 = .ok (.aload_n 1, 1) := by decide +kernel
theorem dX1_put_26 : decode cX1_put 26 = .ok (.getfield 139, 3) := by decide +kernel
theorem dX1_put_29 : decode cX1_put 29 = .ok (.getfield 120, 3) := by decide +kernel
theorem dX1_put_32 : decode cX1_put 32 = .ok (.iconst 4, 1) := by decide +kernel
theorem dX1_put_33 : decode cX1_put 33 = .ok (.invokevirtual 85, 3) := by decide +kernel
theorem dX1_put_36 : decode cX1_put 36 = .ok (.areturn, 1) := by decide +kernel
theorem dX1_put_37 : decode cX1_put 37 = .ok (.aload_n 1, 1) := by decide +kernel
theorem dX1_put_38 : decode cX1_put 38 = .ok (.getfield 166, 3) := by decide +kernel
theorem dX1_put_41 : decode cX1_put 41 = .ok (.getfield 255, 3) := by decide +kernel
theorem dX1_put_44 : decode cX1_put 44 = .ok (.aload_n 1, 1) := by decide +kernel
theorem dX1_put_45 : decode cX1_put 45 = .ok (.getfield 197, 3) := by decide +kernel
theorem dX1_put_48 : decode cX1_put 48 = .ok (.getfield 173, 3) := by decide +kernel
theorem dX1_put_51 : decode cX1_put 51 = .ok (.l2i, 1) := by decide +kernel
theorem dX1_put_52 : decode cX1_put 52 = .ok (.aload_n 1, 1) := by decide +kernel
theorem dX1_put_53 : decode cX1_put 53 = .ok (.getfield 236, 3) := by decide +kernel
theorem dX1_put_56 : decode cX1_put 56 = .ok (.aastore, 1) := by decide +kernel
theorem dX1_put_57 : decode cX1_put 57 = .ok (.aload_n 1, 1) := by decide +kernel
theorem dX1_put_58 : decode cX1_put 58 = .ok (.getfield 236, 3) := by decide +kernel
theorem dX1_put_61 : decode cX1_put 61 = .ok (.areturn, 1) := by decide +kernel
theorem dX1_at_0 : decode cX1_at 0 = .ok (.aload_n 0, 1) := by decide +kernel
theorem dX1_at_1 : decode cX1_at 1 = .ok (.aload_n 1, 1) := by decide +kernel
theorem dX1_at_2 : decode cX1_at 2 = .ok (.invokevirtual 258, 3) := by decide +kernel
theorem dX1_at_5 : decode cX1_at 5 = .ok (.ifCond .eq 7, 3) := by decide +kernel
theorem dX1_at_8 : decode cX1_at 8 = .ok (.aconst_null, 1) := by decide +kernel
theorem dX1_at_9 : decode cX1_at 9 = .ok (.goto 19, 3) := by decide +kernel
theorem dX1_at_12 : decode cX1_at 12 = .ok (.aload_n 1, 1) := by decide +kernel
end
section
theorem dX1_at_13 : decode cX1_at 13 = .ok (.getfield 166, 3) := by decide +kernel
theorem dX1_at_16 : decode cX1_at 16 = .ok (.getfield 255, 3) := by decide +kernel
theorem dX1_at_19 : decode cX1_at 19 = .ok (.aload_n 1, 1) := by decide +kernel
theorem dX1_at_20 : decode cX1_at 20 = .ok (.getfield 197, 3) := by decide +kernel
theorem dX1_at_23 : decode cX1_at 23 = .ok (.getfield 173, 3) := by decide +kernel
theorem dX1_at_26 : decode cX1_at 26 = .ok (.l2i, 1) := by decide +kernel
theorem dX1_at_27 : decode cX1_at 27 = .ok (.aaload, 1) := by decide +kernel
theorem dX1_at_28 : decode cX1_at 28 = .ok (.areturn, 1) := by decide +kernel
theorem dX1_size_0 : decode cX1_size 0 = .ok (.aload_n 0, 1) := by decide +kernel
theorem dX1_size_1 : decode cX1_size 1 = .ok (.aload_n 1, 1) := by decide +kernel
theorem dX1_size_2 : decode cX1_size 2 = .ok (.aload_n 1, 1) := by decide +kernel
theorem dX1_size_3 : decode cX1_size 3 = .ok (.getfield 166, 3) := by decide +kernel
theorem dX1_size_6 : decode cX1_size 6 = .ok (.iconst 5, 1) := by decide +kernel
theorem dX1_size_7 : decode cX1_size 7 = .ok (.invokevirtual 169, 3) := by decide +kernel
theorem dX1_size_10 : decode cX1_size 10 = .ok (.ifCond .eq 5, 3) := by decide +kernel
theorem dX1_size_13 : decode cX1_size 13 = .ok (.aconst_null, 1) := by decide +kernel
theorem dX1_size_14 : decode cX1_size 14 = .ok (.areturn, 1) := by decide +kernel
theorem dX1_size_15 : decode cX1_size 15 = .ok (.aload_n 1, 1) := by decide +kernel
theorem dX1_size_16 : decode cX1_size 16 = .ok (.getfield 166, 3) := by decide +kernel
theorem dX1_size_19 : decode cX1_size 19 = .ok (.getfield 255, 3) := by decide +kernel
theorem dX1_size_22 : decode cX1_size 22 = .ok (.ifnonnull 16, 3) := by decide +kernel
theorem dX1_size_25 : decode cX1_size 25 = .ok (.aload_n 0, 1) := by decide +kernel
theorem dX1_size_26 : decode cX1_size 26 = .ok (.aload_n 1, 1) := by decide +kernel
theorem dX1_size_27 : decode cX1_size 27 = .ok (.getfield 139, 3) := by decide +kernel
theorem dX1_size_30 : decode cX1_size 30 = .ok (.getfield 120, 3) := by decide +kernel
theorem dX1_size_33 : decode cX1_size 33 = .ok (.iconst 1, 1) := by decide +kernel
theorem dX1_size_34 : decode cX1_size 34 = .ok (.invokevirtual 85, 3) := by decide +kernel
theorem dX1_size_37 : decode cX1_size 37 = .ok (.areturn, 1) := by decide +kernel
theorem dX1_size_38 : decode cX1_size 38 = .ok (.aload_n 0, 1) := by decide +kernel
theorem dX1_size_39 : decode cX1_size 39 = .ok (.getfield 21, 3) := by decide +kernel
theorem dX1_size_42 : decode cX1_size 42 = .ok (.iconst 1, 1) := by decide +kernel
theorem dX1_size_43 : decode cX1_size 43 = .ok (.aload_n 1, 1) := by decide +kernel
theorem dX1_size_44 : decode cX1_size 44 = .ok (.getfield 166, 3) := by decide +kernel
theorem dX1_size_47 : decode cX1_size 47 = .ok (.getfield 255, 3) := by decide +kernel
theorem dX1_size_50 : decode cX1_size 50 = .ok (.arraylength, 1) := by decide +kernel
theorem dX1_size_51 : decode cX1_size 51 = .ok (.i2l, 1) := by decide +kernel
theorem dX1_size_52 : decode cX1_size 52 = .ok (.invokevirtual 184, 3) := by decide +kernel
theorem dX1_size_55 : decode cX1_size 55 = .ok (.areturn, 1) := by decide +kernel
theorem dX1_hold_0 : decode cX1_hold 0 = .ok (.aload_n 0, 1) := by decide +kernel
theorem dX1_hold_1 : decode cX1_hold 1 = .ok (.aload_n 1, 1) := by decide +kernel
theorem dX1_hold_2 : decode cX1_hold 2 = .ok (.aload_n 1, 1) := by decide +kernel
theorem dX1_hold_3 : decode cX1_hold 3 = .ok (.getfield 166, 3) := by decide +kernel
theorem dX1_hold_6 : decode cX1_hold 6 = .ok (.iconst 1, 1) := by decide +kernel
theorem dX1_hold_7 : decode cX1_hold 7 = .ok (.invokevirtual 169, 3) := by decide +kernel
theorem dX1_hold_10 : decode cX1_hold 10 = .ok (.ifCond .eq 5, 3) := by decide +kernel
theorem dX1_hold_13 : decode cX1_hold 13 = .ok (.aconst_null, 1) := by decide +kernel
theorem dX1_hold_14 : decode cX1_hold 14 = .ok (.areturn, 1) := by decide +kernel
theorem dX1_hold_15 : decode cX1_hold 15 = .ok (.aload_n 0, 1) := by decide +kernel
theorem dX1_hold_16 : decode cX1_hold 16 = .ok (.aload_n 0, 1) := by decide +kernel
theorem dX1_hold_17 : decode cX1_hold 17 = .ok (.getfield 21, 3) := by decide +kernel
theorem dX1_hold_20 : decode cX1_hold 20 = .ok (.bipush 6, 2) := by decide +kernel
theorem dX1_hold_22 : decode cX1_hold 22 = .ok (.aload_n 1, 1) := by decide +kernel
theorem dX1_hold_23 : decode cX1_hold 23 = .ok (.getfield 166, 3) := by decide +kernel
theorem dX1_hold_26 : decode cX1_hold 26 = .ok (.getfield 173, 3) := by decide +kernel
theorem dX1_hold_29 : decode cX1_hold 29 = .ok (.invokevirtual 184, 3) := by decide +kernel
theorem dX1_hold_32 : decode cX1_hold 32 = .ok (.putfield 55, 3) := by decide +kernel
theorem dX1_hold_35 : decode cX1_hold 35 = .ok (.aload_n 0, 1) := by decide +kernel
theorem dX1_hold_36 : decode cX1_hold 36 = .ok (.getfield 55, 3) := by decide +kernel
theorem dX1_hold_39 : decode cX1_hold 39 = .ok (.areturn, 1) := by decide +kernel
theorem dX2_init_0 : decode cX2_init 0 = .ok (.aload_n 0, 1) := by decide +kernel
theorem dX2_init_1 : decode cX2_init 1 = .ok (.invokespecial 1, 3) := by decide +kernel
theorem dX2_init_4 : decode cX2_init 4 = .ok (.return_, 1) := by decide +kernel
theorem dX2_withValue_0 : decode cX2_withValue 0 = .ok (.new 7, 3) := by decide +kernel
theorem dX2_withValue_3 : decode cX2_withValue 3 = .ok (.dup, 1) := by decide +kernel
theorem dX2_withValue_4 : decode cX2_withValue 4 = .ok (.aload_n 0, 1) := by decide +kernel
theorem dX2_withValue_5 : decode cX2_withValue 5 = .ok (.dup, 1) := by decide +kernel
theorem dX2_withValue_6 : decode cX2_withValue 6 = .ok (.getfield 9, 3) := by decide +kernel
theorem dX2_withValue_9 : decode cX2_withValue 9 = .ok (.dup_x1, 1) := by decide +kernel
theorem dX2_withValue_10 : decode cX2_withValue 10 = .ok (.iconst 1, 1) := by decide +kernel
theorem dX2_withValue_11 : decode cX2_withValue 11 = .ok (.iadd, 1) := by decide +kernel
theorem dX2_withValue_12 : decode cX2_withValue 12 = .ok (.putfield 9, 3) := by decide +kernel
theorem dX2_withValue_15 : decode cX2_withValue 15 = .ok (.iload_n 1, 1) := by decide +kernel
theorem dX2_withValue_16 : decode cX2_withValue 16 = .ok (.invokespecial 15, 3) := by decide +kernel
theorem dX2_withValue_19 : decode cX2_withValue 19 = .ok (.astore 4, 2) := by decide +kernel
theorem dX2_withValue_21 : decode cX2_withValue 21 = .ok (.aload 4, 2) := by decide +kernel
theorem dX2_withValue_23 : decode cX2_withValue 23 = .ok (.lload_n 2, 1) := by decide +kernel
theorem dX2_withValue_24 : decode cX2_withValue 24 = .ok (.putfield 18, 3) := by decide +kernel
theorem dX2_withValue_27 : decode cX2_withValue 27 = .ok (.aload 4, 2) := by decide +kernel
theorem dX2_withValue_29 : decode cX2_withValue 29 = .ok (.areturn, 1) := by decide +kernel
theorem dX2_withFields_0 : decode cX2_withFields 0 = .ok (.new 7, 3) := by decide +kernel
theorem dX2_withFields_3 : decode cX2_withFields 3 = .ok (.dup, 1) := by decide +kernel
theorem dX2_withFields_4 : decode cX2_withFields 4 = .ok (.aload_n 0, 1) := by decide +kernel
theorem dX2_withFields_5 : decode cX2_withFields 5 = .ok (.dup, 1) := by decide +kernel
theorem dX2_withFields_6 : decode cX2_withFields 6 = .ok (.getfield 9, 3) := by decide +kernel
theorem dX2_withFields_9 : decode cX2_withFields 9 = .ok (.dup_x1, 1) := by decide +kernel
theorem dX2_withFields_10 : decode cX2_withFields 10 = .ok (.iconst 1, 1) := by decide +kernel
theorem dX2_withFields_11 : decode cX2_withFields 11 = .ok (.iadd, 1) := by decide +kernel
theorem dX2_withFields_12 : decode cX2_withFields 12 = .ok (.putfield 9, 3) := by decide +kernel
theorem dX2_withFields_15 : decode cX2_withFields 15 = .ok (.iload_n 1, 1) := by decide +kernel
theorem dX2_withFields_16 : decode cX2_withFields 16 = .ok (.invokespecial 15, 3) := by decide +kernel
theorem dX2_withFields_19 : decode cX2_withFields 19 = .ok (.astore 4, 2) := by decide +kernel
theorem dX2_withFields_21 : decode cX2_withFields 21 = .ok (.aload 4, 2) := by decide +kernel
theorem dX2_withFields_23 : decode cX2_withFields 23 = .ok (.aload_n 2, 1) := by decide +kernel
theorem dX2_withFields_24 : decode cX2_withFields 24 = .ok (.putfield 22, 3) := by decide +kernel
theorem dX2_withFields_27 : decode cX2_withFields 27 = .ok (.aload 4, 2) := by decide +kernel
theorem dX2_withFields_29 : decode cX2_withFields 29 = .ok (.aload_n 3, 1) := by decide +kernel
theorem dX2_withFields_30 : decode cX2_withFields 30 = .ok (.putfield 26, 3) := by decide +kernel
theorem dX2_withFields_33 : decode cX2_withFields 33 = .ok (.aload 4, 2) := by decide +kernel
theorem dX2_withFields_35 : decode cX2_withFields 35 = .ok (.areturn, 1) := by decide +kernel
theorem dX2_hasRoomFor_0 : decode cX2_hasRoomFor 0 = .ok (.iload_n 1, 1) := by decide +kernel
theorem dX2_hasRoomFor_1 : decode cX2_hasRoomFor 1 = .ok (.ifCond .lt 19, 3) := by decide +kernel
theorem dX2_hasRoomFor_4 : decode cX2_hasRoomFor 4 = .ok (.iload_n 1, 1) := by decide +kernel
theorem dX2_hasRoomFor_5 : decode cX2_hasRoomFor 5 = .ok (.sipush 20000, 3) := by decide +kernel
theorem dX2_hasRoomFor_8 : decode cX2_hasRoomFor 8 = .ok (.aload_n 0, 1) := by decide +kernel
theorem dX2_hasRoomFor_9 : decode cX2_hasRoomFor 9 = .ok (.getfield 29, 3) := by decide +kernel
theorem dX2_hasRoomFor_12 : decode cX2_hasRoomFor 12 = .ok (.isub, 1) := by decide +kernel
theorem dX2_hasRoomFor_13 : decode cX2_hasRoomFor 13 = .ok (.if_icmp .gt 7, 3) := by decide +kernel
theorem dX2_hasRoomFor_16 : decode cX2_hasRoomFor 16 = .ok (.iconst 1, 1) := by decide +kernel
theorem dX2_hasRoomFor_17 : decode cX2_hasRoomFor 17 = .ok (.goto 4, 3) := by decide +kernel
theorem dX2_hasRoomFor_20 : decode cX2_hasRoomFor 20 = .ok (.iconst 0, 1) := by decide +kernel
theorem dX2_hasRoomFor_21 : decode cX2_hasRoomFor 21 = .ok (.ireturn, 1) := by decide +kernel
theorem dX2_row_0 : decode cX2_row 0 = .ok (.aload_n 0, 1) := by decide +kernel
theorem dX2_row_1 : decode cX2_row 1 = .ok (.invokevirtual 32, 3) := by decide +kernel
theorem dX2_row_4 : decode cX2_row 4 = .ok (.astore_n 3, 1) := by decide +kernel
theorem dX2_row_5 : decode cX2_row 5 = .ok (.aload_n 0, 1) := by decide +kernel
theorem dX2_row_6 : decode cX2_row 6 = .ok (.iload_n 2, 1) := by decide +kernel
theorem dX2_row_7 : decode cX2_row 7 = .ok (.invokevirtual 36, 3) := by decide +kernel
theorem dX2_row_10 : decode cX2_row 10 = .ok (.ifCond .eq 26, 3) := by decide +kernel
theorem dX2_row_13 : decode cX2_row 13 = .ok (.aload_n 0, 1) := by decide +kernel
theorem dX2_row_14 : decode cX2_row 14 = .ok (.dup, 1) := by decide +kernel
theorem dX2_row_15 : decode cX2_row 15 = .ok (.getfield 29, 3) := by decide +kernel
theorem dX2_row_18 : decode cX2_row 18 = .ok (.iload_n 2, 1) := by decide +kernel
theorem dX2_row_19 : decode cX2_row 19 = .ok (.iadd, 1) := by decide +kernel
theorem dX2_row_20 : decode cX2_row 20 = .ok (.putfield 29, 3) := by decide +kernel
theorem dX2_row_23 : decode cX2_row 23 = .ok (.aload_n 3, 1) := by decide +kernel
theorem dX2_row_24 : decode cX2_row 24 = .ok (.iload_n 1, 1) := by decide +kernel
theorem dX2_row_25 : decode cX2_row 25 = .ok (.putfield 40, 3) := by decide +kernel
theorem dX2_row_28 : decode cX2_row 28 = .ok (.aload_n 3, 1) := by decide +kernel
theorem dX2_row_29 : decode cX2_row 29 = .ok (.iload_n 2, 1) := by decide +kernel
theorem dX2_row_30 : decode cX2_row 30 = .ok (.anewarray 7, 3) := by decide +kernel
theorem dX2_row_33 : decode cX2_row 33 = .ok (.putfield 43, 3) := by decide +kernel
theorem dX2_row_36 : decode cX2_row 36 = .ok (.aload_n 3, 1) := by decide +kernel
theorem dX2_row_37 : decode cX2_row 37 = .ok (.areturn, 1) := by decide +kernel
theorem dX2_rowWithoutPlaces_0 : decode cX2_rowWithoutPlaces 0 = .ok (.new 7, 3) := by decide +kernel
theorem dX2_rowWithoutPlaces_3 : decode cX2_rowWithoutPlaces 3 = .ok (.dup, 1) := by decide +kernel
theorem dX2_rowWithoutPlaces_4 : decode cX2_rowWithoutPlaces 4 = .ok (.aload_n 0, 1) := by decide +kernel
theorem dX2_rowWithoutPlaces_5 : decode cX2_rowWithoutPlaces 5 = .ok (.dup, 1) := by decide +kernel
theorem dX2_rowWithoutPlaces_6 : decode cX2_rowWithoutPlaces 6 = .ok (.getfield 9, 3) := by decide +kernel
theorem dX2_rowWithoutPlaces_9 : decode cX2_rowWithoutPlaces 9 = .ok (.dup_x1, 1) := by decide +kernel
theorem dX2_rowWithoutPlaces_10 : decode cX2_rowWithoutPlaces 10 = .ok (.iconst 1, 1) := by decide +kernel
theorem dX2_rowWithoutPlaces_11 : decode cX2_rowWithoutPlaces 11 = .ok (.iadd, 1) := by decide +kernel
theorem dX2_rowWithoutPlaces_12 : decode cX2_rowWithoutPlaces 12 = .ok (.putfield 9, 3) := by decide +kernel
theorem dX2_rowWithoutPlaces_15 : decode cX2_rowWithoutPlaces 15 = .ok (.iconst 5, 1) := by decide +kernel
theorem dX2_rowWithoutPlaces_16 : decode cX2_rowWithoutPlaces 16 = .ok (.invokespecial 15, 3) := by decide +kernel
theorem dX2_rowWithoutPlaces_19 : decode cX2_rowWithoutPlaces 19 = .ok (.areturn, 1) := by decide +kernel
theorem dX3_init_0 : decode cX3_init 0 = .ok (.aload_n 0, 1) := by decide +kernel
theorem dX3_init_1 : decode cX3_init 1 = .ok (.invokespecial 5, 3) := by decide +kernel
theorem dX3_init_4 : decode cX3_init 4 = .ok (.aload_n 0, 1) := by decide +kernel
theorem dX3_init_5 : decode cX3_init 5 = .ok (.iconst (-1), 1) := by decide +kernel
theorem dX3_init_6 : decode cX3_init 6 = .ok (.putfield 11, 3) := by decide +kernel
theorem dX3_init_9 : decode cX3_init 9 = .ok (.aload_n 0, 1) := by decide +kernel
theorem dX3_init_10 : decode cX3_init 10 = .ok (.iconst (-1), 1) := by decide +kernel
theorem dX3_init_11 : decode cX3_init 11 = .ok (.putfield 15, 3) := by decide +kernel
theorem dX3_init_14 : decode cX3_init 14 = .ok (.aload_n 0, 1) := by decide +kernel
theorem dX3_init_15 : decode cX3_init 15 = .ok (.iconst (-1), 1) := by decide +kernel
theorem dX3_init_16 : decode cX3_init 16 = .ok (.putfield 18, 3) := by decide +kernel
theorem dX3_init_19 : decode cX3_init 19 = .ok (.aload_n 0, 1) := by decide +kernel
theorem dX3_init_20 : decode cX3_init 20 = .ok (.iload_n 1, 1) := by decide +kernel
theorem dX3_init_21 : decode cX3_init 21 = .ok (.putfield 21, 3) := by decide +kernel
theorem dX3_init_24 : decode cX3_init 24 = .ok (.aload_n 0, 1) := by decide +kernel
theorem dX3_init_25 : decode cX3_init 25 = .ok (.iload_n 2, 1) := by decide +kernel
theorem dX3_init_26 : decode cX3_init 26 = .ok (.putfield 24, 3) := by decide +kernel
theorem dX3_init_29 : decode cX3_init 29 = .ok (.aload_n 0, 1) := by decide +kernel
theorem dX3_init_30 : decode cX3_init 30 = .ok (.lload_n 3, 1) := by decide +kernel
theorem dX3_init_31 : decode cX3_init 31 = .ok (.putfield 27, 3) := by decide +kernel
theorem dX3_init_34 : decode cX3_init 34 = .ok (.return_, 1) := by decide +kernel
theorem dX3_get_0 : decode cX3_get 0 = .ok (.iload_n 1, 1) := by decide +kernel
theorem dX3_get_1 : decode cX3_get 1 = .ok (.lookupswitch 37 #[(0, 27), (1, 32)], 27) := by decide +kernel
theorem dX3_get_28 : decode cX3_get 28 = .ok (.aload_n 0, 1) := by decide +kernel
theorem dX3_get_29 : decode cX3_get 29 = .ok (.getfield 11, 3) := by decide +kernel
theorem dX3_get_32 : decode cX3_get 32 = .ok (.ireturn, 1) := by decide +kernel
theorem dX3_get_33 : decode cX3_get 33 = .ok (.aload_n 0, 1) := by decide +kernel
theorem dX3_get_34 : decode cX3_get 34 = .ok (.getfield 15, 3) := by decide +kernel
theorem dX3_get_37 : decode cX3_get 37 = .ok (.ireturn, 1) := by decide +kernel
theorem dX3_get_38 : decode cX3_get 38 = .ok (.aload_n 0, 1) := by decide +kernel
theorem dX3_get_39 : decode cX3_get 39 = .ok (.getfield 18, 3) := by decide +kernel
theorem dX3_get_42 : decode cX3_get 42 = .ok (.ireturn, 1) := by decide +kernel
theorem dX3_set_0 : decode cX3_set 0 = .ok (.iload_n 1, 1) := by decide +kernel
theorem dX3_set_1 : decode cX3_set 1 = .ok (.lookupswitch 43 #[(0, 27), (1, 35)], 27) := by decide +kernel
theorem dX3_set_28 : decode cX3_set 28 = .ok (.aload_n 0, 1) := by decide +kernel
theorem dX3_set_29 : decode cX3_set 29 = .ok (.iload_n 2, 1) := by decide +kernel
theorem dX3_set_30 : decode cX3_set 30 = .ok (.putfield 11, 3) := by decide +kernel
theorem dX3_set_33 : decode cX3_set 33 = .ok (.goto 16, 3) := by decide +kernel
theorem dX3_set_36 : decode cX3_set 36 = .ok (.aload_n 0, 1) := by decide +kernel
theorem dX3_set_37 : decode cX3_set 37 = .ok (.iload_n 2, 1) := by decide +kernel
theorem dX3_set_38 : decode cX3_set 38 = .ok (.putfield 15, 3) := by decide +kernel
theorem dX3_set_41 : decode cX3_set 41 = .ok (.goto 8, 3) := by decide +kernel
theorem dX3_set_44 : decode cX3_set 44 = .ok (.aload_n 0, 1) := by decide +kernel
theorem dX3_set_45 : decode cX3_set 45 = .ok (.iload_n 2, 1) := by decide +kernel
theorem dX3_set_46 : decode cX3_set 46 = .ok (.putfield 18, 3) := by decide +kernel
theorem dX3_set_49 : decode cX3_set 49 = .ok (.return_, 1) := by decide +kernel
theorem dX3_works_0 : decode cX3_works 0 = .ok (.aload_n 0, 1) := by decide +kernel
theorem dX3_works_1 : decode cX3_works 1 = .ok (.getfield 24, 3) := by decide +kernel
theorem dX3_works_4 : decode cX3_works 4 = .ok (.tableswitch 145 2 20 #[102, 113, 113, 92, 92, 128, 92, 92, 128, 102, 143, 113, 92, 128, 92, 92, 113, 143, 113], 92) := by decide +kernel
theorem dX3_works_96 : decode cX3_works 96 = .ok (.iload_n 1, 1) := by decide +kernel
theorem dX3_works_97 : decode cX3_works 97 = .ok (.ifCond .ne 7, 3) := by decide +kernel
theorem dX3_works_100 : decode cX3_works 100 = .ok (.iconst 1, 1) := by decide +kernel
theorem dX3_works_101 : decode cX3_works 101 = .ok (.goto 4, 3) := by decide +kernel
theorem dX3_works_104 : decode cX3_works 104 = .ok (.iconst 0, 1) := by decide +kernel
theorem dX3_works_105 : decode cX3_works 105 = .ok (.ireturn, 1) := by decide +kernel
theorem dX3_works_106 : decode cX3_works 106 = .ok (.iload_n 1, 1) := by decide +kernel
theorem dX3_works_107 : decode cX3_works 107 = .ok (.iconst 1, 1) := by decide +kernel
theorem dX3_works_108 : decode cX3_works 108 = .ok (.if_icmp .ne 7, 3) := by decide +kernel
theorem dX3_works_111 : decode cX3_works 111 = .ok (.iconst 1, 1) := by decide +kernel
theorem dX3_works_112 : decode cX3_works 112 = .ok (.goto 4, 3) := by decide +kernel
theorem dX3_works_115 : decode cX3_works 115 = .ok (.iconst 0, 1) := by decide +kernel
theorem dX3_works_116 : decode cX3_works 116 = .ok (.ireturn, 1) := by decide +kernel
theorem dX3_works_117 : decode cX3_works 117 = .ok (.iload_n 1, 1) := by decide +kernel
theorem dX3_works_118 : decode cX3_works 118 = .ok (.ifCond .eq 8, 3) := by decide +kernel
theorem dX3_works_121 : decode cX3_works 121 = .ok (.iload_n 1, 1) := by decide +kernel
theorem dX3_works_122 : decode cX3_works 122 = .ok (.iconst 1, 1) := by decide +kernel
theorem dX3_works_123 : decode cX3_works 123 = .ok (.if_icmp .ne 7, 3) := by decide +kernel
theorem dX3_works_126 : decode cX3_works 126 = .ok (.iconst 1, 1) := by decide +kernel
theorem dX3_works_127 : decode cX3_works 127 = .ok (.goto 4, 3) := by decide +kernel
theorem dX3_works_130 : decode cX3_works 130 = .ok (.iconst 0, 1) := by decide +kernel
theorem dX3_works_131 : decode cX3_works 131 = .ok (.ireturn, 1) := by decide +kernel
theorem dX3_works_132 : decode cX3_works 132 = .ok (.iload_n 1, 1) := by decide +kernel
theorem dX3_works_133 : decode cX3_works 133 = .ok (.ifCond .eq 8, 3) := by decide +kernel
theorem dX3_works_136 : decode cX3_works 136 = .ok (.iload_n 1, 1) := by decide +kernel
theorem dX3_works_137 : decode cX3_works 137 = .ok (.iconst 2, 1) := by decide +kernel
theorem dX3_works_138 : decode cX3_works 138 = .ok (.if_icmp .ne 7, 3) := by decide +kernel
theorem dX3_works_141 : decode cX3_works 141 = .ok (.iconst 1, 1) := by decide +kernel
theorem dX3_works_142 : decode cX3_works 142 = .ok (.goto 4, 3) := by decide +kernel
theorem dX3_works_145 : decode cX3_works 145 = .ok (.iconst 0, 1) := by decide +kernel
theorem dX3_works_146 : decode cX3_works 146 = .ok (.ireturn, 1) := by decide +kernel
theorem dX3_works_147 : decode cX3_works 147 = .ok (.iconst 1, 1) := by decide +kernel
theorem dX3_works_148 : decode cX3_works 148 = .ok (.ireturn, 1) := by decide +kernel
theorem dX3_works_149 : decode cX3_works 149 = .ok (.iconst 0, 1) := by decide +kernel
theorem dX3_works_150 : decode cX3_works 150 = .ok (.ireturn, 1) := by decide +kernel
theorem dX4_init_0 : decode cX4_init 0 = .ok (.aload_n 0, 1) := by decide +kernel
theorem dX4_init_1 : decode cX4_init 1 = .ok (.invokespecial 3, 3) := by decide +kernel
theorem dX4_init_4 : decode cX4_init 4 = .ok (.aload_n 0, 1) := by decide +kernel
theorem dX4_init_5 : decode cX4_init 5 = .ok (.new 9, 3) := by decide +kernel
theorem dX4_init_8 : decode cX4_init 8 = .ok (.dup, 1) := by decide +kernel
theorem dX4_init_9 : decode cX4_init 9 = .ok (.invokespecial 11, 3) := by decide +kernel
theorem dX4_init_12 : decode cX4_init 12 = .ok (.putfield 12, 3) := by decide +kernel
theorem dX4_init_15 : decode cX4_init 15 = .ok (.return_, 1) := by decide +kernel
theorem dX4_at_0 : decode cX4_at 0 = .ok (.iload_n 1, 1) := by decide +kernel
theorem dX4_at_1 : decode cX4_at 1 = .ok (.ifCond .lt 28, 3) := by decide +kernel
theorem dX4_at_4 : decode cX4_at 4 = .ok (.iload_n 1, 1) := by decide +kernel
theorem dX4_at_5 : decode cX4_at 5 = .ok (.aload_n 0, 1) := by decide +kernel
theorem dX4_at_6 : decode cX4_at 6 = .ok (.getfield 12, 3) := by decide +kernel
theorem dX4_at_9 : decode cX4_at 9 = .ok (.invokevirtual 18, 3) := by decide +kernel
theorem dX4_at_12 : decode cX4_at 12 = .ok (.if_icmp .ge 17, 3) := by decide +kernel
theorem dX4_at_15 : decode cX4_at 15 = .ok (.aload_n 0, 1) := by decide +kernel
theorem dX4_at_16 : decode cX4_at 16 = .ok (.getfield 12, 3) := by decide +kernel
theorem dX4_at_19 : decode cX4_at 19 = .ok (.iload_n 1, 1) := by decide +kernel
theorem dX4_at_20 : decode cX4_at 20 = .ok (.invokevirtual 22, 3) := by decide +kernel
theorem dX4_at_23 : decode cX4_at 23 = .ok (.checkcast 26, 3) := by decide +kernel
theorem dX4_at_26 : decode cX4_at 26 = .ok (.goto 4, 3) := by decide +kernel
theorem dX4_at_29 : decode cX4_at 29 = .ok (.aconst_null, 1) := by decide +kernel
theorem dX4_at_30 : decode cX4_at 30 = .ok (.areturn, 1) := by decide +kernel
theorem dX4_addLiteral_0 : decode cX4_addLiteral 0 = .ok (.aload_n 0, 1) := by decide +kernel
theorem dX4_addLiteral_1 : decode cX4_addLiteral 1 = .ok (.getfield 12, 3) := by decide +kernel
theorem dX4_addLiteral_4 : decode cX4_addLiteral 4 = .ok (.invokevirtual 18, 3) := by decide +kernel
theorem dX4_addLiteral_7 : decode cX4_addLiteral 7 = .ok (.sipush 4000, 3) := by decide +kernel
theorem dX4_addLiteral_10 : decode cX4_addLiteral 10 = .ok (.if_icmp .lt 5, 3) := by decide +kernel
theorem dX4_addLiteral_13 : decode cX4_addLiteral 13 = .ok (.iconst (-1), 1) := by decide +kernel
theorem dX4_addLiteral_14 : decode cX4_addLiteral 14 = .ok (.ireturn, 1) := by decide +kernel
theorem dX4_addLiteral_15 : decode cX4_addLiteral 15 = .ok (.aload_n 0, 1) := by decide +kernel
theorem dX4_addLiteral_16 : decode cX4_addLiteral 16 = .ok (.new 26, 3) := by decide +kernel
theorem dX4_addLiteral_19 : decode cX4_addLiteral 19 = .ok (.dup, 1) := by decide +kernel
theorem dX4_addLiteral_20 : decode cX4_addLiteral 20 = .ok (.aload_n 0, 1) := by decide +kernel
theorem dX4_addLiteral_21 : decode cX4_addLiteral 21 = .ok (.getfield 12, 3) := by decide +kernel
theorem dX4_addLiteral_24 : decode cX4_addLiteral 24 = .ok (.invokevirtual 18, 3) := by decide +kernel
theorem dX4_addLiteral_27 : decode cX4_addLiteral 27 = .ok (.iconst 0, 1) := by decide +kernel
theorem dX4_addLiteral_28 : decode cX4_addLiteral 28 = .ok (.lload_n 1, 1) := by decide +kernel
theorem dX4_addLiteral_29 : decode cX4_addLiteral 29 = .ok (.invokespecial 28, 3) := by decide +kernel
theorem dX4_addLiteral_32 : decode cX4_addLiteral 32 = .ok (.invokevirtual 31, 3) := by decide +kernel
theorem dX4_addLiteral_35 : decode cX4_addLiteral 35 = .ok (.ireturn, 1) := by decide +kernel
theorem dX4_add_0 : decode cX4_add 0 = .ok (.aload_n 0, 1) := by decide +kernel
theorem dX4_add_1 : decode cX4_add 1 = .ok (.getfield 12, 3) := by decide +kernel
theorem dX4_add_4 : decode cX4_add 4 = .ok (.invokevirtual 18, 3) := by decide +kernel
theorem dX4_add_7 : decode cX4_add 7 = .ok (.sipush 4000, 3) := by decide +kernel
theorem dX4_add_10 : decode cX4_add 10 = .ok (.if_icmp .lt 5, 3) := by decide +kernel
theorem dX4_add_13 : decode cX4_add 13 = .ok (.iconst (-1), 1) := by decide +kernel
theorem dX4_add_14 : decode cX4_add 14 = .ok (.ireturn, 1) := by decide +kernel
theorem dX4_add_15 : decode cX4_add 15 = .ok (.new 26, 3) := by decide +kernel
theorem dX4_add_18 : decode cX4_add 18 = .ok (.dup, 1) := by decide +kernel
theorem dX4_add_19 : decode cX4_add 19 = .ok (.aload_n 0, 1) := by decide +kernel
theorem dX4_add_20 : decode cX4_add 20 = .ok (.getfield 12, 3) := by decide +kernel
theorem dX4_add_23 : decode cX4_add 23 = .ok (.invokevirtual 18, 3) := by decide +kernel
theorem dX4_add_26 : decode cX4_add 26 = .ok (.iload_n 1, 1) := by decide +kernel
theorem dX4_add_27 : decode cX4_add 27 = .ok (.lconst 0, 1) := by decide +kernel
theorem dX4_add_28 : decode cX4_add 28 = .ok (.invokespecial 28, 3) := by decide +kernel
theorem dX4_add_31 : decode cX4_add 31 = .ok (.astore 5, 2) := by decide +kernel
theorem dX4_add_33 : decode cX4_add 33 = .ok (.aload_n 0, 1) := by decide +kernel
theorem dX4_add_34 : decode cX4_add 34 = .ok (.aload 5, 2) := by decide +kernel
theorem dX4_add_36 : decode cX4_add 36 = .ok (.iconst 0, 1) := by decide +kernel
theorem dX4_add_37 : decode cX4_add 37 = .ok (.iload_n 2, 1) := by decide +kernel
theorem dX4_add_38 : decode cX4_add 38 = .ok (.invokevirtual 35, 3) := by decide +kernel
theorem dX4_add_41 : decode cX4_add 41 = .ok (.aload_n 0, 1) := by decide +kernel
theorem dX4_add_42 : decode cX4_add 42 = .ok (.aload 5, 2) := by decide +kernel
theorem dX4_add_44 : decode cX4_add 44 = .ok (.iconst 1, 1) := by decide +kernel
theorem dX4_add_45 : decode cX4_add 45 = .ok (.iload_n 3, 1) := by decide +kernel
theorem dX4_add_46 : decode cX4_add 46 = .ok (.invokevirtual 35, 3) := by decide +kernel
theorem dX4_add_49 : decode cX4_add 49 = .ok (.aload_n 0, 1) := by decide +kernel
theorem dX4_add_50 : decode cX4_add 50 = .ok (.aload 5, 2) := by decide +kernel
theorem dX4_add_52 : decode cX4_add 52 = .ok (.iconst 2, 1) := by decide +kernel
theorem dX4_add_53 : decode cX4_add 53 = .ok (.iload 4, 2) := by decide +kernel
theorem dX4_add_55 : decode cX4_add 55 = .ok (.invokevirtual 35, 3) := by decide +kernel
theorem dX4_add_58 : decode cX4_add 58 = .ok (.aload_n 0, 1) := by decide +kernel
theorem dX4_add_59 : decode cX4_add 59 = .ok (.aload 5, 2) := by decide +kernel
theorem dX4_add_61 : decode cX4_add 61 = .ok (.invokevirtual 31, 3) := by decide +kernel
theorem dX4_add_64 : decode cX4_add 64 = .ok (.ireturn, 1) := by decide +kernel
theorem dX4_setPart_0 : decode cX4_setPart 0 = .ok (.aload_n 1, 1) := by decide +kernel
theorem dX4_setPart_1 : decode cX4_setPart 1 = .ok (.iload_n 2, 1) := by decide +kernel
theorem dX4_setPart_2 : decode cX4_setPart 2 = .ok (.invokevirtual 39, 3) := by decide +kernel
theorem dX4_setPart_5 : decode cX4_setPart 5 = .ok (.ifCond .eq 15, 3) := by decide +kernel
theorem dX4_setPart_8 : decode cX4_setPart 8 = .ok (.aload_n 0, 1) := by decide +kernel
theorem dX4_setPart_9 : decode cX4_setPart 9 = .ok (.iload_n 3, 1) := by decide +kernel
theorem dX4_setPart_10 : decode cX4_setPart 10 = .ok (.invokevirtual 43, 3) := by decide +kernel
theorem dX4_setPart_13 : decode cX4_setPart 13 = .ok (.ifnonnull 7, 3) := by decide +kernel
theorem dX4_setPart_16 : decode cX4_setPart 16 = .ok (.iconst 1, 1) := by decide +kernel
theorem dX4_setPart_17 : decode cX4_setPart 17 = .ok (.goto 4, 3) := by decide +kernel
theorem dX4_setPart_20 : decode cX4_setPart 20 = .ok (.iconst 0, 1) := by decide +kernel
theorem dX4_setPart_21 : decode cX4_setPart 21 = .ok (.istore 4, 2) := by decide +kernel
theorem dX4_setPart_23 : decode cX4_setPart 23 = .ok (.aload_n 1, 1) := by decide +kernel
theorem dX4_setPart_24 : decode cX4_setPart 24 = .ok (.iload_n 2, 1) := by decide +kernel
theorem dX4_setPart_25 : decode cX4_setPart 25 = .ok (.iload 4, 2) := by decide +kernel
theorem dX4_setPart_27 : decode cX4_setPart 27 = .ok (.ifCond .eq 7, 3) := by decide +kernel
theorem dX4_setPart_30 : decode cX4_setPart 30 = .ok (.iconst (-1), 1) := by decide +kernel
theorem dX4_setPart_31 : decode cX4_setPart 31 = .ok (.goto 4, 3) := by decide +kernel
theorem dX4_setPart_34 : decode cX4_setPart 34 = .ok (.iload_n 3, 1) := by decide +kernel
theorem dX4_setPart_35 : decode cX4_setPart 35 = .ok (.invokevirtual 47, 3) := by decide +kernel
theorem dX4_setPart_38 : decode cX4_setPart 38 = .ok (.return_, 1) := by decide +kernel
theorem dX4_clear_0 : decode cX4_clear 0 = .ok (.aload_n 0, 1) := by decide +kernel
theorem dX4_clear_1 : decode cX4_clear 1 = .ok (.getfield 12, 3) := by decide +kernel
theorem dX4_clear_4 : decode cX4_clear 4 = .ok (.invokevirtual 51, 3) := by decide +kernel
theorem dX4_clear_7 : decode cX4_clear 7 = .ok (.return_, 1) := by decide +kernel
theorem dX4_append_0 : decode cX4_append 0 = .ok (.aload_n 0, 1) := by decide +kernel
theorem dX4_append_1 : decode cX4_append 1 = .ok (.getfield 12, 3) := by decide +kernel
theorem dX4_append_4 : decode cX4_append 4 = .ok (.aload_n 1, 1) := by decide +kernel
theorem dX4_append_5 : decode cX4_append 5 = .ok (.invokevirtual 54, 3) := by decide +kernel
theorem dX4_append_8 : decode cX4_append 8 = .ok (.pop, 1) := by decide +kernel
theorem dX4_append_9 : decode cX4_append 9 = .ok (.aload_n 1, 1) := by decide +kernel
theorem dX4_append_10 : decode cX4_append 10 = .ok (.getfield 58, 3) := by decide +kernel
theorem dX4_append_13 : decode cX4_append 13 = .ok (.ireturn, 1) := by decide +kernel
theorem dX5_init_0 : decode cX5_init 0 = .ok (.aload_n 0, 1) := by decide +kernel
theorem dX5_init_1 : decode cX5_init 1 = .ok (.invokespecial 3, 3) := by decide +kernel
theorem dX5_init_4 : decode cX5_init 4 = .ok (.aload_n 0, 1) := by decide +kernel
theorem dX5_init_5 : decode cX5_init 5 = .ok (.iload_n 1, 1) := by decide +kernel
theorem dX5_init_6 : decode cX5_init 6 = .ok (.putfield 9, 3) := by decide +kernel
theorem dX5_init_9 : decode cX5_init 9 = .ok (.aload_n 0, 1) := by decide +kernel
theorem dX5_init_10 : decode cX5_init 10 = .ok (.iload_n 2, 1) := by decide +kernel
theorem dX5_init_11 : decode cX5_init 11 = .ok (.putfield 15, 3) := by decide +kernel
theorem dX5_init_14 : decode cX5_init 14 = .ok (.return_, 1) := by decide +kernel
theorem dX5_isA_0 : decode cX5_isA 0 = .ok (.aload_n 0, 1) := by decide +kernel
theorem dX5_isA_1 : decode cX5_isA 1 = .ok (.getfield 15, 3) := by decide +kernel
theorem dX5_isA_4 : decode cX5_isA 4 = .ok (.iload_n 1, 1) := by decide +kernel
theorem dX5_isA_5 : decode cX5_isA 5 = .ok (.if_icmp .eq 16, 3) := by decide +kernel
theorem dX5_isA_8 : decode cX5_isA 8 = .ok (.iload_n 1, 1) := by decide +kernel
theorem dX5_isA_9 : decode cX5_isA 9 = .ok (.iconst 2, 1) := by decide +kernel
theorem dX5_isA_10 : decode cX5_isA 10 = .ok (.if_icmp .ne 15, 3) := by decide +kernel
theorem dX5_isA_13 : decode cX5_isA 13 = .ok (.aload_n 0, 1) := by decide +kernel
theorem dX5_isA_14 : decode cX5_isA 14 = .ok (.getfield 15, 3) := by decide +kernel
theorem dX5_isA_17 : decode cX5_isA 17 = .ok (.iconst 3, 1) := by decide +kernel
theorem dX5_isA_18 : decode cX5_isA 18 = .ok (.if_icmp .ne 7, 3) := by decide +kernel
theorem dX5_isA_21 : decode cX5_isA 21 = .ok (.iconst 1, 1) := by decide +kernel
theorem dX5_isA_22 : decode cX5_isA 22 = .ok (.goto 4, 3) := by decide +kernel
theorem dX5_isA_25 : decode cX5_isA 25 = .ok (.iconst 0, 1) := by decide +kernel
theorem dX5_isA_26 : decode cX5_isA 26 = .ok (.ireturn, 1) := by decide +kernel
theorem dX5_hasValue_0 : decode cX5_hasValue 0 = .ok (.aload_n 0, 1) := by decide +kernel
theorem dX5_hasValue_1 : decode cX5_hasValue 1 = .ok (.getfield 15, 3) := by decide +kernel
theorem dX5_hasValue_4 : decode cX5_hasValue 4 = .ok (.iconst 1, 1) := by decide +kernel
theorem dX5_hasValue_5 : decode cX5_hasValue 5 = .ok (.if_icmp .eq 12, 3) := by decide +kernel
theorem dX5_hasValue_8 : decode cX5_hasValue 8 = .ok (.aload_n 0, 1) := by decide +kernel
theorem dX5_hasValue_9 : decode cX5_hasValue 9 = .ok (.getfield 15, 3) := by decide +kernel
theorem dX5_hasValue_12 : decode cX5_hasValue 12 = .ok (.bipush 6, 2) := by decide +kernel
theorem dX5_hasValue_14 : decode cX5_hasValue 14 = .ok (.if_icmp .ne 7, 3) := by decide +kernel
theorem dX5_hasValue_17 : decode cX5_hasValue 17 = .ok (.iconst 1, 1) := by decide +kernel
theorem dX5_hasValue_18 : decode cX5_hasValue 18 = .ok (.goto 4, 3) := by decide +kernel
theorem dX5_hasValue_21 : decode cX5_hasValue 21 = .ok (.iconst 0, 1) := by decide +kernel
theorem dX5_hasValue_22 : decode cX5_hasValue 22 = .ok (.ireturn, 1) := by decide +kernel
theorem dX5_hasPlace_0 : decode cX5_hasPlace 0 = .ok (.aload_n 0, 1) := by decide +kernel
theorem dX5_hasPlace_1 : decode cX5_hasPlace 1 = .ok (.getfield 18, 3) := by decide +kernel
theorem dX5_hasPlace_4 : decode cX5_hasPlace 4 = .ok (.ifnull 20, 3) := by decide +kernel
theorem dX5_hasPlace_7 : decode cX5_hasPlace 7 = .ok (.iload_n 1, 1) := by decide +kernel
theorem dX5_hasPlace_8 : decode cX5_hasPlace 8 = .ok (.ifCond .lt 16, 3) := by decide +kernel
theorem dX5_hasPlace_11 : decode cX5_hasPlace 11 = .ok (.iload_n 1, 1) := by decide +kernel
theorem dX5_hasPlace_12 : decode cX5_hasPlace 12 = .ok (.aload_n 0, 1) := by decide +kernel
theorem dX5_hasPlace_13 : decode cX5_hasPlace 13 = .ok (.getfield 18, 3) := by decide +kernel
theorem dX5_hasPlace_16 : decode cX5_hasPlace 16 = .ok (.arraylength, 1) := by decide +kernel
theorem dX5_hasPlace_17 : decode cX5_hasPlace 17 = .ok (.if_icmp .ge 7, 3) := by decide +kernel
theorem dX5_hasPlace_20 : decode cX5_hasPlace 20 = .ok (.iconst 1, 1) := by decide +kernel
theorem dX5_hasPlace_21 : decode cX5_hasPlace 21 = .ok (.goto 4, 3) := by decide +kernel
theorem dX5_hasPlace_24 : decode cX5_hasPlace 24 = .ok (.iconst 0, 1) := by decide +kernel
theorem dX5_hasPlace_25 : decode cX5_hasPlace 25 = .ok (.ireturn, 1) := by decide +kernel
theorem dX5_isRowFor_0 : decode cX5_isRowFor 0 = .ok (.aload_n 0, 1) := by decide +kernel
theorem dX5_isRowFor_1 : decode cX5_isRowFor 1 = .ok (.getfield 22, 3) := by decide +kernel
theorem dX5_isRowFor_4 : decode cX5_isRowFor 4 = .ok (.lookupswitch 64 #[(1, 28), (2, 46)], 28) := by decide +kernel
theorem dX5_isRowFor_32 : decode cX5_isRowFor 32 = .ok (.aload_n 1, 1) := by decide +kernel
theorem dX5_isRowFor_33 : decode cX5_isRowFor 33 = .ok (.ifnull 11, 3) := by decide +kernel
theorem dX5_isRowFor_36 : decode cX5_isRowFor 36 = .ok (.aload_n 1, 1) := by decide +kernel
theorem dX5_isRowFor_37 : decode cX5_isRowFor 37 = .ok (.iconst 2, 1) := by decide +kernel
theorem dX5_isRowFor_38 : decode cX5_isRowFor 38 = .ok (.invokevirtual 25, 3) := by decide +kernel
theorem dX5_isRowFor_41 : decode cX5_isRowFor 41 = .ok (.ifCond .eq 7, 3) := by decide +kernel
theorem dX5_isRowFor_44 : decode cX5_isRowFor 44 = .ok (.iconst 1, 1) := by decide +kernel
theorem dX5_isRowFor_45 : decode cX5_isRowFor 45 = .ok (.goto 4, 3) := by decide +kernel
theorem dX5_isRowFor_48 : decode cX5_isRowFor 48 = .ok (.iconst 0, 1) := by decide +kernel
theorem dX5_isRowFor_49 : decode cX5_isRowFor 49 = .ok (.ireturn, 1) := by decide +kernel
theorem dX5_isRowFor_50 : decode cX5_isRowFor 50 = .ok (.aload_n 1, 1) := by decide +kernel
theorem dX5_isRowFor_51 : decode cX5_isRowFor 51 = .ok (.ifnull 11, 3) := by decide +kernel
theorem dX5_isRowFor_54 : decode cX5_isRowFor 54 = .ok (.aload_n 1, 1) := by decide +kernel
theorem dX5_isRowFor_55 : decode cX5_isRowFor 55 = .ok (.iconst 3, 1) := by decide +kernel
theorem dX5_isRowFor_56 : decode cX5_isRowFor 56 = .ok (.invokevirtual 25, 3) := by decide +kernel
theorem dX5_isRowFor_59 : decode cX5_isRowFor 59 = .ok (.ifCond .eq 7, 3) := by decide +kernel
theorem dX5_isRowFor_62 : decode cX5_isRowFor 62 = .ok (.iconst 1, 1) := by decide +kernel
theorem dX5_isRowFor_63 : decode cX5_isRowFor 63 = .ok (.goto 4, 3) := by decide +kernel
theorem dX5_isRowFor_66 : decode cX5_isRowFor 66 = .ok (.iconst 0, 1) := by decide +kernel
theorem dX5_isRowFor_67 : decode cX5_isRowFor 67 = .ok (.ireturn, 1) := by decide +kernel
theorem dX5_isRowFor_68 : decode cX5_isRowFor 68 = .ok (.iconst 1, 1) := by decide +kernel
theorem dX5_isRowFor_69 : decode cX5_isRowFor 69 = .ok (.ireturn, 1) := by decide +kernel
theorem dX5_tell_0 : decode cX5_tell 0 = .ok (.iload_n 1, 1) := by decide +kernel
theorem dX5_tell_1 : decode cX5_tell 1 = .ok (.tableswitch 78 1 3 #[27, 32, 55], 27) := by decide +kernel
theorem dX5_tell_28 : decode cX5_tell 28 = .ok (.aload_n 0, 1) := by decide +kernel
theorem dX5_tell_29 : decode cX5_tell 29 = .ok (.getfield 9, 3) := by decide +kernel
theorem dX5_tell_32 : decode cX5_tell 32 = .ok (.ireturn, 1) := by decide +kernel
theorem dX5_tell_33 : decode cX5_tell 33 = .ok (.aload_n 0, 1) := by decide +kernel
theorem dX5_tell_34 : decode cX5_tell 34 = .ok (.getfield 15, 3) := by decide +kernel
theorem dX5_tell_37 : decode cX5_tell 37 = .ok (.iconst 5, 1) := by decide +kernel
theorem dX5_tell_38 : decode cX5_tell 38 = .ok (.if_icmp .ne 10, 3) := by decide +kernel
theorem dX5_tell_41 : decode cX5_tell 41 = .ok (.aload_n 0, 1) := by decide +kernel
theorem dX5_tell_42 : decode cX5_tell 42 = .ok (.invokevirtual 29, 3) := by decide +kernel
theorem dX5_tell_45 : decode cX5_tell 45 = .ok (.goto 10, 3) := by decide +kernel
theorem dX5_tell_48 : decode cX5_tell 48 = .ok (.aload_n 0, 1) := by decide +kernel
theorem dX5_tell_49 : decode cX5_tell 49 = .ok (.getfield 33, 3) := by decide +kernel
theorem dX5_tell_52 : decode cX5_tell 52 = .ok (.invokestatic 37, 3) := by decide +kernel
theorem dX5_tell_55 : decode cX5_tell 55 = .ok (.ireturn, 1) := by decide +kernel
theorem dX5_tell_56 : decode cX5_tell 56 = .ok (.aload_n 0, 1) := by decide +kernel
theorem dX5_tell_57 : decode cX5_tell 57 = .ok (.getfield 15, 3) := by decide +kernel
theorem dX5_tell_60 : decode cX5_tell 60 = .ok (.iconst 5, 1) := by decide +kernel
theorem dX5_tell_61 : decode cX5_tell 61 = .ok (.if_icmp .ne 10, 3) := by decide +kernel
theorem dX5_tell_64 : decode cX5_tell 64 = .ok (.aload_n 0, 1) := by decide +kernel
theorem dX5_tell_65 : decode cX5_tell 65 = .ok (.invokevirtual 41, 3) := by decide +kernel
theorem dX5_tell_68 : decode cX5_tell 68 = .ok (.goto 10, 3) := by decide +kernel
theorem dX5_tell_71 : decode cX5_tell 71 = .ok (.aload_n 0, 1) := by decide +kernel
theorem dX5_tell_72 : decode cX5_tell 72 = .ok (.getfield 44, 3) := by decide +kernel
theorem dX5_tell_75 : decode cX5_tell 75 = .ok (.invokestatic 37, 3) := by decide +kernel
theorem dX5_tell_78 : decode cX5_tell 78 = .ok (.ireturn, 1) := by decide +kernel
theorem dX5_tell_79 : decode cX5_tell 79 = .ok (.iconst (-1), 1) := by decide +kernel
theorem dX5_tell_80 : decode cX5_tell 80 = .ok (.ireturn, 1) := by decide +kernel
theorem dX5_placesOrNone_0 : decode cX5_placesOrNone 0 = .ok (.aload_n 0, 1) := by decide +kernel
theorem dX5_placesOrNone_1 : decode cX5_placesOrNone 1 = .ok (.getfield 18, 3) := by decide +kernel
theorem dX5_placesOrNone_4 : decode cX5_placesOrNone 4 = .ok (.ifnonnull 7, 3) := by decide +kernel
theorem dX5_placesOrNone_7 : decode cX5_placesOrNone 7 = .ok (.iconst (-1), 1) := by decide +kernel
theorem dX5_placesOrNone_8 : decode cX5_placesOrNone 8 = .ok (.goto 8, 3) := by decide +kernel
theorem dX5_placesOrNone_11 : decode cX5_placesOrNone 11 = .ok (.aload_n 0, 1) := by decide +kernel
theorem dX5_placesOrNone_12 : decode cX5_placesOrNone 12 = .ok (.getfield 18, 3) := by decide +kernel
theorem dX5_placesOrNone_15 : decode cX5_placesOrNone 15 = .ok (.arraylength, 1) := by decide +kernel
theorem dX5_placesOrNone_16 : decode cX5_placesOrNone 16 = .ok (.ireturn, 1) := by decide +kernel
theorem dX5_useOrNone_0 : decode cX5_useOrNone 0 = .ok (.aload_n 0, 1) := by decide +kernel
theorem dX5_useOrNone_1 : decode cX5_useOrNone 1 = .ok (.getfield 18, 3) := by decide +kernel
theorem dX5_useOrNone_4 : decode cX5_useOrNone 4 = .ok (.ifnonnull 7, 3) := by decide +kernel
theorem dX5_useOrNone_7 : decode cX5_useOrNone 7 = .ok (.iconst (-1), 1) := by decide +kernel
theorem dX5_useOrNone_8 : decode cX5_useOrNone 8 = .ok (.goto 7, 3) := by decide +kernel
theorem dX5_useOrNone_11 : decode cX5_useOrNone 11 = .ok (.aload_n 0, 1) := by decide +kernel
theorem dX5_useOrNone_12 : decode cX5_useOrNone 12 = .ok (.getfield 22, 3) := by decide +kernel
theorem dX5_useOrNone_15 : decode cX5_useOrNone 15 = .ok (.ireturn, 1) := by decide +kernel
theorem dX5_numberOf_0 : decode cX5_numberOf 0 = .ok (.aload_n 0, 1) := by decide +kernel
theorem dX5_numberOf_1 : decode cX5_numberOf 1 = .ok (.ifnonnull 7, 3) := by decide +kernel
theorem dX5_numberOf_4 : decode cX5_numberOf 4 = .ok (.iconst (-1), 1) := by decide +kernel
theorem dX5_numberOf_5 : decode cX5_numberOf 5 = .ok (.goto 7, 3) := by decide +kernel
theorem dX5_numberOf_8 : decode cX5_numberOf 8 = .ok (.aload_n 0, 1) := by decide +kernel
theorem dX5_numberOf_9 : decode cX5_numberOf 9 = .ok (.getfield 9, 3) := by decide +kernel
theorem dX5_numberOf_12 : decode cX5_numberOf 12 = .ok (.ireturn, 1) := by decide +kernel
theorem dX6_init_0 : decode cX6_init 0 = .ok (.aload_n 0, 1) := by decide +kernel
theorem dX6_init_1 : decode cX6_init 1 = .ok (.invokespecial 1, 3) := by decide +kernel
theorem dX6_init_4 : decode cX6_init 4 = .ok (.aload_n 0, 1) := by decide +kernel
theorem dX6_init_5 : decode cX6_init 5 = .ok (.new 7, 3) := by decide +kernel
theorem dX6_init_8 : decode cX6_init 8 = .ok (.dup, 1) := by decide +kernel
theorem dX6_init_9 : decode cX6_init 9 = .ok (.invokespecial 9, 3) := by decide +kernel
theorem dX6_init_12 : decode cX6_init 12 = .ok (.putfield 10, 3) := by decide +kernel
theorem dX6_init_15 : decode cX6_init 15 = .ok (.aload_n 0, 1) := by decide +kernel
theorem dX6_init_16 : decode cX6_init 16 = .ok (.aload_n 0, 1) := by decide +kernel
theorem dX6_init_17 : decode cX6_init 17 = .ok (.getfield 10, 3) := by decide +kernel
theorem dX6_init_20 : decode cX6_init 20 = .ok (.getfield 16, 3) := by decide +kernel
theorem dX6_init_23 : decode cX6_init 23 = .ok (.putfield 20, 3) := by decide +kernel
theorem dX6_init_26 : decode cX6_init 26 = .ok (.return_, 1) := by decide +kernel
theorem dX6_lit_0 : decode cX6_lit 0 = .ok (.aload_n 0, 1) := by decide +kernel
theorem dX6_lit_1 : decode cX6_lit 1 = .ok (.getfield 20, 3) := by decide +kernel
theorem dX6_lit_4 : decode cX6_lit 4 = .ok (.lload_n 1, 1) := by decide +kernel
theorem dX6_lit_5 : decode cX6_lit 5 = .ok (.invokevirtual 21, 3) := by decide +kernel
theorem dX6_lit_8 : decode cX6_lit 8 = .ok (.ireturn, 1) := by decide +kernel
theorem dX6_node_0 : decode cX6_node 0 = .ok (.iload_n 1, 1) := by decide +kernel
theorem dX6_node_1 : decode cX6_node 1 = .ok (.iconst 1, 1) := by decide +kernel
theorem dX6_node_2 : decode cX6_node 2 = .ok (.if_icmp .lt 9, 3) := by decide +kernel
theorem dX6_node_5 : decode cX6_node 5 = .ok (.iload_n 1, 1) := by decide +kernel
theorem dX6_node_6 : decode cX6_node 6 = .ok (.bipush 20, 2) := by decide +kernel
theorem dX6_node_8 : decode cX6_node 8 = .ok (.if_icmp .le 5, 3) := by decide +kernel
theorem dX6_node_11 : decode cX6_node 11 = .ok (.iconst (-1), 1) := by decide +kernel
theorem dX6_node_12 : decode cX6_node 12 = .ok (.ireturn, 1) := by decide +kernel
theorem dX6_node_13 : decode cX6_node 13 = .ok (.aload_n 0, 1) := by decide +kernel
theorem dX6_node_14 : decode cX6_node 14 = .ok (.getfield 20, 3) := by decide +kernel
theorem dX6_node_17 : decode cX6_node 17 = .ok (.iload_n 1, 1) := by decide +kernel
theorem dX6_node_18 : decode cX6_node 18 = .ok (.iload_n 2, 1) := by decide +kernel
theorem dX6_node_19 : decode cX6_node 19 = .ok (.iload_n 3, 1) := by decide +kernel
theorem dX6_node_20 : decode cX6_node 20 = .ok (.iload 4, 2) := by decide +kernel
theorem dX6_node_22 : decode cX6_node 22 = .ok (.invokevirtual 29, 3) := by decide +kernel
theorem dX6_node_25 : decode cX6_node 25 = .ok (.ireturn, 1) := by decide +kernel
end
section
theorem dX6_part_0 : decode cX6_part 0 = .ok (.aload_n 0, 1) := by decide +kernel
theorem dX6_part_1 : decode cX6_part 1 = .ok (.getfield 20, 3) := by decide +kernel
theorem dX6_part_4 : decode cX6_part 4 = .ok (.iload_n 1, 1) := by decide +kernel
theorem dX6_part_5 : decode cX6_part 5 = .ok (.invokevirtual 33, 3) := by decide +kernel
theorem dX6_part_8 : decode cX6_part 8 = .ok (.astore 4, 2) := by decide +kernel
theorem dX6_part_10 : decode cX6_part 10 = .ok (.aload 4, 2) := by decide +kernel
theorem dX6_part_12 : decode cX6_part 12 = .ok (.ifnull 12, 3) := by decide +kernel
theorem dX6_part_15 : decode cX6_part 15 = .ok (.iload_n 2, 1) := by decide +kernel
theorem dX6_part_16 : decode cX6_part 16 = .ok (.ifCond .lt 8, 3) := by decide +kernel
theorem dX6_part_19 : decode cX6_part 19 = .ok (.iload_n 2, 1) := by decide +kernel
theorem dX6_part_20 : decode cX6_part 20 = .ok (.iconst 2, 1) := by decide +kernel
theorem dX6_part_21 : decode cX6_part 21 = .ok (.if_icmp .le 5, 3) := by decide +kernel
theorem dX6_part_24 : decode cX6_part 24 = .ok (.iconst (-1), 1) := by decide +kernel
theorem dX6_part_25 : decode cX6_part 25 = .ok (.ireturn, 1) := by decide +kernel
theorem dX6_part_26 : decode cX6_part 26 = .ok (.aload_n 0, 1) := by decide +kernel
theorem dX6_part_27 : decode cX6_part 27 = .ok (.getfield 20, 3) := by decide +kernel
theorem dX6_part_30 : decode cX6_part 30 = .ok (.aload 4, 2) := by decide +kernel
theorem dX6_part_32 : decode cX6_part 32 = .ok (.iload_n 2, 1) := by decide +kernel
theorem dX6_part_33 : decode cX6_part 33 = .ok (.iload_n 3, 1) := by decide +kernel
theorem dX6_part_34 : decode cX6_part 34 = .ok (.invokevirtual 37, 3) := by decide +kernel
theorem dX6_part_37 : decode cX6_part 37 = .ok (.iconst 0, 1) := by decide +kernel
theorem dX6_part_38 : decode cX6_part 38 = .ok (.ireturn, 1) := by decide +kernel
theorem dX6_run_0 : decode cX6_run 0 = .ok (.iload_n 2, 1) := by decide +kernel
theorem dX6_run_1 : decode cX6_run 1 = .ok (.ifCond .lt 10, 3) := by decide +kernel
theorem dX6_run_4 : decode cX6_run 4 = .ok (.iload_n 2, 1) := by decide +kernel
theorem dX6_run_5 : decode cX6_run 5 = .ok (.sipush 10000, 3) := by decide +kernel
theorem dX6_run_8 : decode cX6_run 8 = .ok (.if_icmp .le 6, 3) := by decide +kernel
theorem dX6_run_11 : decode cX6_run 11 = .ok (.bipush (-2), 2) := by decide +kernel
theorem dX6_run_13 : decode cX6_run 13 = .ok (.ireturn, 1) := by decide +kernel
theorem dX6_run_14 : decode cX6_run 14 = .ok (.aload_n 0, 1) := by decide +kernel
theorem dX6_run_15 : decode cX6_run 15 = .ok (.getfield 10, 3) := by decide +kernel
theorem dX6_run_18 : decode cX6_run 18 = .ok (.aload_n 0, 1) := by decide +kernel
theorem dX6_run_19 : decode cX6_run 19 = .ok (.getfield 20, 3) := by decide +kernel
theorem dX6_run_22 : decode cX6_run 22 = .ok (.iload_n 1, 1) := by decide +kernel
theorem dX6_run_23 : decode cX6_run 23 = .ok (.invokevirtual 33, 3) := by decide +kernel
theorem dX6_run_26 : decode cX6_run 26 = .ok (.iload_n 2, 1) := by decide +kernel
theorem dX6_run_27 : decode cX6_run 27 = .ok (.invokevirtual 41, 3) := by decide +kernel
theorem dX6_run_30 : decode cX6_run 30 = .ok (.iconst 0, 1) := by decide +kernel
theorem dX6_run_31 : decode cX6_run 31 = .ok (.istore_n 3, 1) := by decide +kernel
theorem dX6_run_32 : decode cX6_run 32 = .ok (.iload_n 3, 1) := by decide +kernel
theorem dX6_run_33 : decode cX6_run 33 = .ok (.ldc 45, 2) := by decide +kernel
theorem dX6_run_35 : decode cX6_run 35 = .ok (.if_icmp .ge 26, 3) := by decide +kernel
theorem dX6_run_38 : decode cX6_run 38 = .ok (.aload_n 0, 1) := by decide +kernel
theorem dX6_run_39 : decode cX6_run 39 = .ok (.getfield 10, 3) := by decide +kernel
theorem dX6_run_42 : decode cX6_run 42 = .ok (.invokevirtual 46, 3) := by decide +kernel
theorem dX6_run_45 : decode cX6_run 45 = .ok (.ifCond .eq 16, 3) := by decide +kernel
theorem dX6_run_48 : decode cX6_run 48 = .ok (.aload_n 0, 1) := by decide +kernel
theorem dX6_run_49 : decode cX6_run 49 = .ok (.getfield 10, 3) := by decide +kernel
theorem dX6_run_52 : decode cX6_run 52 = .ok (.invokevirtual 50, 3) := by decide +kernel
theorem dX6_run_55 : decode cX6_run 55 = .ok (.iinc 3 1, 3) := by decide +kernel
theorem dX6_run_58 : decode cX6_run 58 = .ok (.goto (-26), 3) := by decide +kernel
theorem dX6_run_61 : decode cX6_run 61 = .ok (.aload_n 0, 1) := by decide +kernel
theorem dX6_run_62 : decode cX6_run 62 = .ok (.getfield 10, 3) := by decide +kernel
theorem dX6_run_65 : decode cX6_run 65 = .ok (.invokevirtual 53, 3) := by decide +kernel
theorem dX6_run_68 : decode cX6_run 68 = .ok (.ireturn, 1) := by decide +kernel
theorem dX6_value_0 : decode cX6_value 0 = .ok (.aload_n 0, 1) := by decide +kernel
theorem dX6_value_1 : decode cX6_value 1 = .ok (.getfield 10, 3) := by decide +kernel
theorem dX6_value_4 : decode cX6_value 4 = .ok (.iload_n 1, 1) := by decide +kernel
theorem dX6_value_5 : decode cX6_value 5 = .ok (.invokevirtual 57, 3) := by decide +kernel
theorem dX6_value_8 : decode cX6_value 8 = .ok (.astore_n 2, 1) := by decide +kernel
theorem dX6_value_9 : decode cX6_value 9 = .ok (.aload_n 2, 1) := by decide +kernel
theorem dX6_value_10 : decode cX6_value 10 = .ok (.ifnull 17, 3) := by decide +kernel
theorem dX6_value_13 : decode cX6_value 13 = .ok (.aload_n 2, 1) := by decide +kernel
theorem dX6_value_14 : decode cX6_value 14 = .ok (.invokevirtual 61, 3) := by decide +kernel
theorem dX6_value_17 : decode cX6_value 17 = .ok (.ifCond .eq 10, 3) := by decide +kernel
theorem dX6_value_20 : decode cX6_value 20 = .ok (.aload_n 2, 1) := by decide +kernel
theorem dX6_value_21 : decode cX6_value 21 = .ok (.getfield 66, 3) := by decide +kernel
theorem dX6_value_24 : decode cX6_value 24 = .ok (.goto 4, 3) := by decide +kernel
theorem dX6_value_27 : decode cX6_value 27 = .ok (.lconst 0, 1) := by decide +kernel
theorem dX6_value_28 : decode cX6_value 28 = .ok (.lreturn, 1) := by decide +kernel
theorem dX6_thing_0 : decode cX6_thing 0 = .ok (.aload_n 0, 1) := by decide +kernel
theorem dX6_thing_1 : decode cX6_thing 1 = .ok (.getfield 10, 3) := by decide +kernel
theorem dX6_thing_4 : decode cX6_thing 4 = .ok (.iload_n 1, 1) := by decide +kernel
theorem dX6_thing_5 : decode cX6_thing 5 = .ok (.invokevirtual 70, 3) := by decide +kernel
theorem dX6_thing_8 : decode cX6_thing 8 = .ok (.ifCond .ne 5, 3) := by decide +kernel
theorem dX6_thing_11 : decode cX6_thing 11 = .ok (.iconst (-1), 1) := by decide +kernel
theorem dX6_thing_12 : decode cX6_thing 12 = .ok (.ireturn, 1) := by decide +kernel
theorem dX6_thing_13 : decode cX6_thing 13 = .ok (.aload_n 0, 1) := by decide +kernel
theorem dX6_thing_14 : decode cX6_thing 14 = .ok (.getfield 10, 3) := by decide +kernel
theorem dX6_thing_17 : decode cX6_thing 17 = .ok (.iload_n 1, 1) := by decide +kernel
theorem dX6_thing_18 : decode cX6_thing 18 = .ok (.invokevirtual 57, 3) := by decide +kernel
theorem dX6_thing_21 : decode cX6_thing 21 = .ok (.astore_n 3, 1) := by decide +kernel
theorem dX6_thing_22 : decode cX6_thing 22 = .ok (.iload_n 2, 1) := by decide +kernel
theorem dX6_thing_23 : decode cX6_thing 23 = .ok (.ifCond .ne 16, 3) := by decide +kernel
theorem dX6_thing_26 : decode cX6_thing 26 = .ok (.aload_n 3, 1) := by decide +kernel
theorem dX6_thing_27 : decode cX6_thing 27 = .ok (.ifnonnull 7, 3) := by decide +kernel
theorem dX6_thing_30 : decode cX6_thing 30 = .ok (.iconst 0, 1) := by decide +kernel
theorem dX6_thing_31 : decode cX6_thing 31 = .ok (.goto 7, 3) := by decide +kernel
theorem dX6_thing_34 : decode cX6_thing 34 = .ok (.aload_n 3, 1) := by decide +kernel
theorem dX6_thing_35 : decode cX6_thing 35 = .ok (.getfield 74, 3) := by decide +kernel
theorem dX6_thing_38 : decode cX6_thing 38 = .ok (.ireturn, 1) := by decide +kernel
theorem dX6_thing_39 : decode cX6_thing 39 = .ok (.aload_n 3, 1) := by decide +kernel
theorem dX6_thing_40 : decode cX6_thing 40 = .ok (.ifnonnull 7, 3) := by decide +kernel
theorem dX6_thing_43 : decode cX6_thing 43 = .ok (.iconst (-1), 1) := by decide +kernel
theorem dX6_thing_44 : decode cX6_thing 44 = .ok (.goto 8, 3) := by decide +kernel
theorem dX6_thing_47 : decode cX6_thing 47 = .ok (.aload_n 3, 1) := by decide +kernel
theorem dX6_thing_48 : decode cX6_thing 48 = .ok (.iload_n 2, 1) := by decide +kernel
theorem dX6_thing_49 : decode cX6_thing 49 = .ok (.invokevirtual 78, 3) := by decide +kernel
theorem dX6_thing_52 : decode cX6_thing 52 = .ok (.ireturn, 1) := by decide +kernel
theorem dX6_fault_0 : decode cX6_fault 0 = .ok (.aload_n 0, 1) := by decide +kernel
theorem dX6_fault_1 : decode cX6_fault 1 = .ok (.getfield 10, 3) := by decide +kernel
theorem dX6_fault_4 : decode cX6_fault 4 = .ok (.getfield 82, 3) := by decide +kernel
theorem dX6_fault_7 : decode cX6_fault 7 = .ok (.ireturn, 1) := by decide +kernel
theorem dX6_faultNode_0 : decode cX6_faultNode 0 = .ok (.aload_n 0, 1) := by decide +kernel
theorem dX6_faultNode_1 : decode cX6_faultNode 1 = .ok (.getfield 10, 3) := by decide +kernel
theorem dX6_faultNode_4 : decode cX6_faultNode 4 = .ok (.getfield 85, 3) := by decide +kernel
theorem dX6_faultNode_7 : decode cX6_faultNode 7 = .ok (.ireturn, 1) := by decide +kernel
theorem dX6_steps_0 : decode cX6_steps 0 = .ok (.aload_n 0, 1) := by decide +kernel
theorem dX6_steps_1 : decode cX6_steps 1 = .ok (.getfield 10, 3) := by decide +kernel
theorem dX6_steps_4 : decode cX6_steps 4 = .ok (.getfield 88, 3) := by decide +kernel
theorem dX6_steps_7 : decode cX6_steps 7 = .ok (.ireturn, 1) := by decide +kernel
theorem dX6_wipe_0 : decode cX6_wipe 0 = .ok (.aload_n 0, 1) := by decide +kernel
theorem dX6_wipe_1 : decode cX6_wipe 1 = .ok (.getfield 20, 3) := by decide +kernel
theorem dX6_wipe_4 : decode cX6_wipe 4 = .ok (.invokevirtual 91, 3) := by decide +kernel
theorem dX6_wipe_7 : decode cX6_wipe 7 = .ok (.aload_n 0, 1) := by decide +kernel
theorem dX6_wipe_8 : decode cX6_wipe 8 = .ok (.getfield 10, 3) := by decide +kernel
theorem dX6_wipe_11 : decode cX6_wipe 11 = .ok (.invokevirtual 94, 3) := by decide +kernel
theorem dX6_wipe_14 : decode cX6_wipe 14 = .ok (.return_, 1) := by decide +kernel
theorem dX7_init_0 : decode cX7_init 0 = .ok (.aload_n 0, 1) := by decide +kernel
theorem dX7_init_1 : decode cX7_init 1 = .ok (.invokespecial 1, 3) := by decide +kernel
theorem dX7_init_4 : decode cX7_init 4 = .ok (.aload_n 0, 1) := by decide +kernel
theorem dX7_init_5 : decode cX7_init 5 = .ok (.bipush 21, 2) := by decide +kernel
theorem dX7_init_7 : decode cX7_init 7 = .ok (.newarray .int, 2) := by decide +kernel
theorem dX7_init_9 : decode cX7_init 9 = .ok (.dup, 1) := by decide +kernel
theorem dX7_init_10 : decode cX7_init 10 = .ok (.iconst 0, 1) := by decide +kernel
theorem dX7_init_11 : decode cX7_init 11 = .ok (.iconst 0, 1) := by decide +kernel
theorem dX7_init_12 : decode cX7_init 12 = .ok (.iastore, 1) := by decide +kernel
theorem dX7_init_13 : decode cX7_init 13 = .ok (.dup, 1) := by decide +kernel
theorem dX7_init_14 : decode cX7_init 14 = .ok (.iconst 1, 1) := by decide +kernel
theorem dX7_init_15 : decode cX7_init 15 = .ok (.iconst 0, 1) := by decide +kernel
theorem dX7_init_16 : decode cX7_init 16 = .ok (.iastore, 1) := by decide +kernel
theorem dX7_init_17 : decode cX7_init 17 = .ok (.dup, 1) := by decide +kernel
theorem dX7_init_18 : decode cX7_init 18 = .ok (.iconst 2, 1) := by decide +kernel
theorem dX7_init_19 : decode cX7_init 19 = .ok (.iconst 2, 1) := by decide +kernel
theorem dX7_init_20 : decode cX7_init 20 = .ok (.iastore, 1) := by decide +kernel
theorem dX7_init_21 : decode cX7_init 21 = .ok (.dup, 1) := by decide +kernel
theorem dX7_init_22 : decode cX7_init 22 = .ok (.iconst 3, 1) := by decide +kernel
theorem dX7_init_23 : decode cX7_init 23 = .ok (.iconst 3, 1) := by decide +kernel
theorem dX7_init_24 : decode cX7_init 24 = .ok (.iastore, 1) := by decide +kernel
theorem dX7_init_25 : decode cX7_init 25 = .ok (.dup, 1) := by decide +kernel
theorem dX7_init_26 : decode cX7_init 26 = .ok (.iconst 4, 1) := by decide +kernel
theorem dX7_init_27 : decode cX7_init 27 = .ok (.iconst 3, 1) := by decide +kernel
theorem dX7_init_28 : decode cX7_init 28 = .ok (.iastore, 1) := by decide +kernel
theorem dX7_init_29 : decode cX7_init 29 = .ok (.dup, 1) := by decide +kernel
theorem dX7_init_30 : decode cX7_init 30 = .ok (.iconst 5, 1) := by decide +kernel
theorem dX7_init_31 : decode cX7_init 31 = .ok (.iconst 1, 1) := by decide +kernel
theorem dX7_init_32 : decode cX7_init 32 = .ok (.iastore, 1) := by decide +kernel
theorem dX7_init_33 : decode cX7_init 33 = .ok (.dup, 1) := by decide +kernel
theorem dX7_init_34 : decode cX7_init 34 = .ok (.bipush 6, 2) := by decide +kernel
theorem dX7_init_36 : decode cX7_init 36 = .ok (.iconst 1, 1) := by decide +kernel
theorem dX7_init_37 : decode cX7_init 37 = .ok (.iastore, 1) := by decide +kernel
theorem dX7_init_38 : decode cX7_init 38 = .ok (.dup, 1) := by decide +kernel
theorem dX7_init_39 : decode cX7_init 39 = .ok (.bipush 7, 2) := by decide +kernel
theorem dX7_init_41 : decode cX7_init 41 = .ok (.iconst 5, 1) := by decide +kernel
theorem dX7_init_42 : decode cX7_init 42 = .ok (.iastore, 1) := by decide +kernel
theorem dX7_init_43 : decode cX7_init 43 = .ok (.dup, 1) := by decide +kernel
theorem dX7_init_44 : decode cX7_init 44 = .ok (.bipush 8, 2) := by decide +kernel
theorem dX7_init_46 : decode cX7_init 46 = .ok (.iconst 1, 1) := by decide +kernel
theorem dX7_init_47 : decode cX7_init 47 = .ok (.iastore, 1) := by decide +kernel
theorem dX7_init_48 : decode cX7_init 48 = .ok (.dup, 1) := by decide +kernel
theorem dX7_init_49 : decode cX7_init 49 = .ok (.bipush 9, 2) := by decide +kernel
theorem dX7_init_51 : decode cX7_init 51 = .ok (.iconst 1, 1) := by decide +kernel
theorem dX7_init_52 : decode cX7_init 52 = .ok (.iastore, 1) := by decide +kernel
theorem dX7_init_53 : decode cX7_init 53 = .ok (.dup, 1) := by decide +kernel
theorem dX7_init_54 : decode cX7_init 54 = .ok (.bipush 10, 2) := by decide +kernel
theorem dX7_init_56 : decode cX7_init 56 = .ok (.iconst 5, 1) := by decide +kernel
theorem dX7_init_57 : decode cX7_init 57 = .ok (.iastore, 1) := by decide +kernel
theorem dX7_init_58 : decode cX7_init 58 = .ok (.dup, 1) := by decide +kernel
theorem dX7_init_59 : decode cX7_init 59 = .ok (.bipush 11, 2) := by decide +kernel
theorem dX7_init_61 : decode cX7_init 61 = .ok (.iconst 2, 1) := by decide +kernel
theorem dX7_init_62 : decode cX7_init 62 = .ok (.iastore, 1) := by decide +kernel
theorem dX7_init_63 : decode cX7_init 63 = .ok (.dup, 1) := by decide +kernel
theorem dX7_init_64 : decode cX7_init 64 = .ok (.bipush 12, 2) := by decide +kernel
theorem dX7_init_66 : decode cX7_init 66 = .ok (.bipush 7, 2) := by decide +kernel
theorem dX7_init_68 : decode cX7_init 68 = .ok (.iastore, 1) := by decide +kernel
theorem dX7_init_69 : decode cX7_init 69 = .ok (.dup, 1) := by decide +kernel
theorem dX7_init_70 : decode cX7_init 70 = .ok (.bipush 13, 2) := by decide +kernel
theorem dX7_init_72 : decode cX7_init 72 = .ok (.iconst 3, 1) := by decide +kernel
theorem dX7_init_73 : decode cX7_init 73 = .ok (.iastore, 1) := by decide +kernel
theorem dX7_init_74 : decode cX7_init 74 = .ok (.dup, 1) := by decide +kernel
theorem dX7_init_75 : decode cX7_init 75 = .ok (.bipush 14, 2) := by decide +kernel
theorem dX7_init_77 : decode cX7_init 77 = .ok (.iconst 1, 1) := by decide +kernel
theorem dX7_init_78 : decode cX7_init 78 = .ok (.iastore, 1) := by decide +kernel
theorem dX7_init_79 : decode cX7_init 79 = .ok (.dup, 1) := by decide +kernel
theorem dX7_init_80 : decode cX7_init 80 = .ok (.bipush 15, 2) := by decide +kernel
theorem dX7_init_82 : decode cX7_init 82 = .ok (.iconst 5, 1) := by decide +kernel
theorem dX7_init_83 : decode cX7_init 83 = .ok (.iastore, 1) := by decide +kernel
theorem dX7_init_84 : decode cX7_init 84 = .ok (.dup, 1) := by decide +kernel
theorem dX7_init_85 : decode cX7_init 85 = .ok (.bipush 16, 2) := by decide +kernel
theorem dX7_init_87 : decode cX7_init 87 = .ok (.iconst 1, 1) := by decide +kernel
theorem dX7_init_88 : decode cX7_init 88 = .ok (.iastore, 1) := by decide +kernel
theorem dX7_init_89 : decode cX7_init 89 = .ok (.dup, 1) := by decide +kernel
theorem dX7_init_90 : decode cX7_init 90 = .ok (.bipush 17, 2) := by decide +kernel
theorem dX7_init_92 : decode cX7_init 92 = .ok (.iconst 1, 1) := by decide +kernel
theorem dX7_init_93 : decode cX7_init 93 = .ok (.iastore, 1) := by decide +kernel
theorem dX7_init_94 : decode cX7_init 94 = .ok (.dup, 1) := by decide +kernel
theorem dX7_init_95 : decode cX7_init 95 = .ok (.bipush 18, 2) := by decide +kernel
theorem dX7_init_97 : decode cX7_init 97 = .ok (.iconst 3, 1) := by decide +kernel
theorem dX7_init_98 : decode cX7_init 98 = .ok (.iastore, 1) := by decide +kernel
theorem dX7_init_99 : decode cX7_init 99 = .ok (.dup, 1) := by decide +kernel
theorem dX7_init_100 : decode cX7_init 100 = .ok (.bipush 19, 2) := by decide +kernel
theorem dX7_init_102 : decode cX7_init 102 = .ok (.bipush 7, 2) := by decide +kernel
theorem dX7_init_104 : decode cX7_init 104 = .ok (.iastore, 1) := by decide +kernel
theorem dX7_init_105 : decode cX7_init 105 = .ok (.dup, 1) := by decide +kernel
theorem dX7_init_106 : decode cX7_init 106 = .ok (.bipush 20, 2) := by decide +kernel
theorem dX7_init_108 : decode cX7_init 108 = .ok (.iconst 3, 1) := by decide +kernel
theorem dX7_init_109 : decode cX7_init 109 = .ok (.iastore, 1) := by decide +kernel
theorem dX7_init_110 : decode cX7_init 110 = .ok (.putfield 7, 3) := by decide +kernel
theorem dX7_init_113 : decode cX7_init 113 = .ok (.aload_n 0, 1) := by decide +kernel
theorem dX7_init_114 : decode cX7_init 114 = .ok (.sipush 4000, 3) := by decide +kernel
theorem dX7_init_117 : decode cX7_init 117 = .ok (.newarray .int, 2) := by decide +kernel
theorem dX7_init_119 : decode cX7_init 119 = .ok (.putfield 13, 3) := by decide +kernel
theorem dX7_init_122 : decode cX7_init 122 = .ok (.aload_n 0, 1) := by decide +kernel
theorem dX7_init_123 : decode cX7_init 123 = .ok (.sipush 12000, 3) := by decide +kernel
theorem dX7_init_126 : decode cX7_init 126 = .ok (.newarray .int, 2) := by decide +kernel
theorem dX7_init_128 : decode cX7_init 128 = .ok (.putfield 16, 3) := by decide +kernel
theorem dX7_init_131 : decode cX7_init 131 = .ok (.aload_n 0, 1) := by decide +kernel
theorem dX7_init_132 : decode cX7_init 132 = .ok (.sipush 4000, 3) := by decide +kernel
theorem dX7_init_135 : decode cX7_init 135 = .ok (.newarray .long, 2) := by decide +kernel
theorem dX7_init_137 : decode cX7_init 137 = .ok (.putfield 19, 3) := by decide +kernel
theorem dX7_init_140 : decode cX7_init 140 = .ok (.aload_n 0, 1) := by decide +kernel
theorem dX7_init_141 : decode cX7_init 141 = .ok (.ldc 23, 2) := by decide +kernel
theorem dX7_init_143 : decode cX7_init 143 = .ok (.newarray .int, 2) := by decide +kernel
theorem dX7_init_145 : decode cX7_init 145 = .ok (.putfield 24, 3) := by decide +kernel
theorem dX7_init_148 : decode cX7_init 148 = .ok (.aload_n 0, 1) := by decide +kernel
theorem dX7_init_149 : decode cX7_init 149 = .ok (.ldc 23, 2) := by decide +kernel
theorem dX7_init_151 : decode cX7_init 151 = .ok (.newarray .int, 2) := by decide +kernel
theorem dX7_init_153 : decode cX7_init 153 = .ok (.putfield 27, 3) := by decide +kernel
theorem dX7_init_156 : decode cX7_init 156 = .ok (.aload_n 0, 1) := by decide +kernel
theorem dX7_init_157 : decode cX7_init 157 = .ok (.ldc 23, 2) := by decide +kernel
theorem dX7_init_159 : decode cX7_init 159 = .ok (.newarray .int, 2) := by decide +kernel
theorem dX7_init_161 : decode cX7_init 161 = .ok (.putfield 30, 3) := by decide +kernel
theorem dX7_init_164 : decode cX7_init 164 = .ok (.aload_n 0, 1) := by decide +kernel
theorem dX7_init_165 : decode cX7_init 165 = .ok (.ldc 23, 2) := by decide +kernel
theorem dX7_init_167 : decode cX7_init 167 = .ok (.newarray .long, 2) := by decide +kernel
theorem dX7_init_169 : decode cX7_init 169 = .ok (.putfield 33, 3) := by decide +kernel
theorem dX7_init_172 : decode cX7_init 172 = .ok (.aload_n 0, 1) := by decide +kernel
theorem dX7_init_173 : decode cX7_init 173 = .ok (.sipush 20000, 3) := by decide +kernel
theorem dX7_init_176 : decode cX7_init 176 = .ok (.newarray .int, 2) := by decide +kernel
theorem dX7_init_178 : decode cX7_init 178 = .ok (.putfield 36, 3) := by decide +kernel
theorem dX7_init_181 : decode cX7_init 181 = .ok (.aload_n 0, 1) := by decide +kernel
theorem dX7_init_182 : decode cX7_init 182 = .ok (.sipush 256, 3) := by decide +kernel
theorem dX7_init_185 : decode cX7_init 185 = .ok (.newarray .int, 2) := by decide +kernel
theorem dX7_init_187 : decode cX7_init 187 = .ok (.putfield 39, 3) := by decide +kernel
theorem dX7_init_190 : decode cX7_init 190 = .ok (.aload_n 0, 1) := by decide +kernel
theorem dX7_init_191 : decode cX7_init 191 = .ok (.iconst (-1), 1) := by decide +kernel
theorem dX7_init_192 : decode cX7_init 192 = .ok (.putfield 42, 3) := by decide +kernel
theorem dX7_init_195 : decode cX7_init 195 = .ok (.aload_n 0, 1) := by decide +kernel
theorem dX7_init_196 : decode cX7_init 196 = .ok (.sipush 201, 3) := by decide +kernel
theorem dX7_init_199 : decode cX7_init 199 = .ok (.newarray .int, 2) := by decide +kernel
theorem dX7_init_201 : decode cX7_init 201 = .ok (.putfield 46, 3) := by decide +kernel
theorem dX7_init_204 : decode cX7_init 204 = .ok (.aload_n 0, 1) := by decide +kernel
theorem dX7_init_205 : decode cX7_init 205 = .ok (.sipush 201, 3) := by decide +kernel
theorem dX7_init_208 : decode cX7_init 208 = .ok (.newarray .int, 2) := by decide +kernel
theorem dX7_init_210 : decode cX7_init 210 = .ok (.putfield 49, 3) := by decide +kernel
theorem dX7_init_213 : decode cX7_init 213 = .ok (.aload_n 0, 1) := by decide +kernel
theorem dX7_init_214 : decode cX7_init 214 = .ok (.sipush 603, 3) := by decide +kernel
theorem dX7_init_217 : decode cX7_init 217 = .ok (.newarray .int, 2) := by decide +kernel
theorem dX7_init_219 : decode cX7_init 219 = .ok (.putfield 52, 3) := by decide +kernel
theorem dX7_init_222 : decode cX7_init 222 = .ok (.aload_n 0, 1) := by decide +kernel
theorem dX7_init_223 : decode cX7_init 223 = .ok (.sipush 201, 3) := by decide +kernel
theorem dX7_init_226 : decode cX7_init 226 = .ok (.newarray .long, 2) := by decide +kernel
theorem dX7_init_228 : decode cX7_init 228 = .ok (.putfield 55, 3) := by decide +kernel
theorem dX7_init_231 : decode cX7_init 231 = .ok (.aload_n 0, 1) := by decide +kernel
theorem dX7_init_232 : decode cX7_init 232 = .ok (.iconst (-1), 1) := by decide +kernel
theorem dX7_init_233 : decode cX7_init 233 = .ok (.putfield 58, 3) := by decide +kernel
theorem dX7_init_236 : decode cX7_init 236 = .ok (.aload_n 0, 1) := by decide +kernel
theorem dX7_init_237 : decode cX7_init 237 = .ok (.iconst (-1), 1) := by decide +kernel
theorem dX7_init_238 : decode cX7_init 238 = .ok (.putfield 61, 3) := by decide +kernel
theorem dX7_init_241 : decode cX7_init 241 = .ok (.iconst 0, 1) := by decide +kernel
theorem dX7_init_242 : decode cX7_init 242 = .ok (.istore_n 1, 1) := by decide +kernel
theorem dX7_init_243 : decode cX7_init 243 = .ok (.iload_n 1, 1) := by decide +kernel
theorem dX7_init_244 : decode cX7_init 244 = .ok (.sipush 256, 3) := by decide +kernel
theorem dX7_init_247 : decode cX7_init 247 = .ok (.if_icmp .ge 16, 3) := by decide +kernel
theorem dX7_init_250 : decode cX7_init 250 = .ok (.aload_n 0, 1) := by decide +kernel
theorem dX7_init_251 : decode cX7_init 251 = .ok (.getfield 39, 3) := by decide +kernel
theorem dX7_init_254 : decode cX7_init 254 = .ok (.iload_n 1, 1) := by decide +kernel
theorem dX7_init_255 : decode cX7_init 255 = .ok (.iconst (-1), 1) := by decide +kernel
theorem dX7_init_256 : decode cX7_init 256 = .ok (.iastore, 1) := by decide +kernel
theorem dX7_init_257 : decode cX7_init 257 = .ok (.iinc 1 1, 3) := by decide +kernel
theorem dX7_init_260 : decode cX7_init 260 = .ok (.goto (-17), 3) := by decide +kernel
theorem dX7_init_263 : decode cX7_init 263 = .ok (.return_, 1) := by decide +kernel
theorem dX7_lit_0 : decode cX7_lit 0 = .ok (.aload_n 0, 1) := by decide +kernel
theorem dX7_lit_1 : decode cX7_lit 1 = .ok (.getfield 64, 3) := by decide +kernel
theorem dX7_lit_4 : decode cX7_lit 4 = .ok (.sipush 4000, 3) := by decide +kernel
theorem dX7_lit_7 : decode cX7_lit 7 = .ok (.if_icmp .ne 5, 3) := by decide +kernel
theorem dX7_lit_10 : decode cX7_lit 10 = .ok (.iconst (-1), 1) := by decide +kernel
theorem dX7_lit_11 : decode cX7_lit 11 = .ok (.ireturn, 1) := by decide +kernel
theorem dX7_lit_12 : decode cX7_lit 12 = .ok (.aload_n 0, 1) := by decide +kernel
theorem dX7_lit_13 : decode cX7_lit 13 = .ok (.getfield 13, 3) := by decide +kernel
theorem dX7_lit_16 : decode cX7_lit 16 = .ok (.aload_n 0, 1) := by decide +kernel
theorem dX7_lit_17 : decode cX7_lit 17 = .ok (.getfield 64, 3) := by decide +kernel
theorem dX7_lit_20 : decode cX7_lit 20 = .ok (.iconst 0, 1) := by decide +kernel
theorem dX7_lit_21 : decode cX7_lit 21 = .ok (.iastore, 1) := by decide +kernel
theorem dX7_lit_22 : decode cX7_lit 22 = .ok (.aload_n 0, 1) := by decide +kernel
theorem dX7_lit_23 : decode cX7_lit 23 = .ok (.getfield 19, 3) := by decide +kernel
theorem dX7_lit_26 : decode cX7_lit 26 = .ok (.aload_n 0, 1) := by decide +kernel
theorem dX7_lit_27 : decode cX7_lit 27 = .ok (.getfield 64, 3) := by decide +kernel
theorem dX7_lit_30 : decode cX7_lit 30 = .ok (.lload_n 1, 1) := by decide +kernel
theorem dX7_lit_31 : decode cX7_lit 31 = .ok (.lastore, 1) := by decide +kernel
theorem dX7_lit_32 : decode cX7_lit 32 = .ok (.aload_n 0, 1) := by decide +kernel
theorem dX7_lit_33 : decode cX7_lit 33 = .ok (.dup, 1) := by decide +kernel
theorem dX7_lit_34 : decode cX7_lit 34 = .ok (.getfield 64, 3) := by decide +kernel
theorem dX7_lit_37 : decode cX7_lit 37 = .ok (.iconst 1, 1) := by decide +kernel
theorem dX7_lit_38 : decode cX7_lit 38 = .ok (.iadd, 1) := by decide +kernel
theorem dX7_lit_39 : decode cX7_lit 39 = .ok (.putfield 64, 3) := by decide +kernel
theorem dX7_lit_42 : decode cX7_lit 42 = .ok (.aload_n 0, 1) := by decide +kernel
theorem dX7_lit_43 : decode cX7_lit 43 = .ok (.getfield 64, 3) := by decide +kernel
theorem dX7_lit_46 : decode cX7_lit 46 = .ok (.iconst 1, 1) := by decide +kernel
theorem dX7_lit_47 : decode cX7_lit 47 = .ok (.isub, 1) := by decide +kernel
theorem dX7_lit_48 : decode cX7_lit 48 = .ok (.ireturn, 1) := by decide +kernel
theorem dX7_isNode_0 : decode cX7_isNode 0 = .ok (.aload_n 0, 1) := by decide +kernel
theorem dX7_isNode_1 : decode cX7_isNode 1 = .ok (.getfield 7, 3) := by decide +kernel
theorem dX7_isNode_4 : decode cX7_isNode 4 = .ok (.aload_n 0, 1) := by decide +kernel
theorem dX7_isNode_5 : decode cX7_isNode 5 = .ok (.getfield 13, 3) := by decide +kernel
theorem dX7_isNode_8 : decode cX7_isNode 8 = .ok (.iload_n 1, 1) := by decide +kernel
theorem dX7_isNode_9 : decode cX7_isNode 9 = .ok (.iaload, 1) := by decide +kernel
theorem dX7_isNode_10 : decode cX7_isNode 10 = .ok (.iaload, 1) := by decide +kernel
theorem dX7_isNode_11 : decode cX7_isNode 11 = .ok (.iload_n 2, 1) := by decide +kernel
theorem dX7_isNode_12 : decode cX7_isNode 12 = .ok (.ishr, 1) := by decide +kernel
theorem dX7_isNode_13 : decode cX7_isNode 13 = .ok (.iconst 1, 1) := by decide +kernel
theorem dX7_isNode_14 : decode cX7_isNode 14 = .ok (.iand, 1) := by decide +kernel
theorem dX7_isNode_15 : decode cX7_isNode 15 = .ok (.iconst 1, 1) := by decide +kernel
theorem dX7_isNode_16 : decode cX7_isNode 16 = .ok (.if_icmp .ne 7, 3) := by decide +kernel
theorem dX7_isNode_19 : decode cX7_isNode 19 = .ok (.iconst 1, 1) := by decide +kernel
theorem dX7_isNode_20 : decode cX7_isNode 20 = .ok (.goto 4, 3) := by decide +kernel
theorem dX7_isNode_23 : decode cX7_isNode 23 = .ok (.iconst 0, 1) := by decide +kernel
theorem dX7_isNode_24 : decode cX7_isNode 24 = .ok (.ireturn, 1) := by decide +kernel
theorem dX7_join_0 : decode cX7_join 0 = .ok (.aload_n 0, 1) := by decide +kernel
theorem dX7_join_1 : decode cX7_join 1 = .ok (.getfield 16, 3) := by decide +kernel
theorem dX7_join_4 : decode cX7_join 4 = .ok (.iconst 3, 1) := by decide +kernel
theorem dX7_join_5 : decode cX7_join 5 = .ok (.iload_n 1, 1) := by decide +kernel
theorem dX7_join_6 : decode cX7_join 6 = .ok (.imul, 1) := by decide +kernel
theorem dX7_join_7 : decode cX7_join 7 = .ok (.iload_n 2, 1) := by decide +kernel
theorem dX7_join_8 : decode cX7_join 8 = .ok (.iadd, 1) := by decide +kernel
theorem dX7_join_9 : decode cX7_join 9 = .ok (.aload_n 0, 1) := by decide +kernel
theorem dX7_join_10 : decode cX7_join 10 = .ok (.iload_n 1, 1) := by decide +kernel
theorem dX7_join_11 : decode cX7_join 11 = .ok (.iload_n 2, 1) := by decide +kernel
theorem dX7_join_12 : decode cX7_join 12 = .ok (.invokevirtual 67, 3) := by decide +kernel
theorem dX7_join_15 : decode cX7_join 15 = .ok (.ifCond .eq 19, 3) := by decide +kernel
theorem dX7_join_18 : decode cX7_join 18 = .ok (.iload_n 3, 1) := by decide +kernel
theorem dX7_join_19 : decode cX7_join 19 = .ok (.ifCond .lt 11, 3) := by decide +kernel
theorem dX7_join_22 : decode cX7_join 22 = .ok (.iload_n 3, 1) := by decide +kernel
theorem dX7_join_23 : decode cX7_join 23 = .ok (.aload_n 0, 1) := by decide +kernel
theorem dX7_join_24 : decode cX7_join 24 = .ok (.getfield 64, 3) := by decide +kernel
theorem dX7_join_27 : decode cX7_join 27 = .ok (.if_icmp .lt 7, 3) := by decide +kernel
theorem dX7_join_30 : decode cX7_join 30 = .ok (.iconst (-1), 1) := by decide +kernel
theorem dX7_join_31 : decode cX7_join 31 = .ok (.goto 4, 3) := by decide +kernel
theorem dX7_join_34 : decode cX7_join 34 = .ok (.iload_n 3, 1) := by decide +kernel
theorem dX7_join_35 : decode cX7_join 35 = .ok (.iastore, 1) := by decide +kernel
theorem dX7_join_36 : decode cX7_join 36 = .ok (.return_, 1) := by decide +kernel
theorem dX7_node_0 : decode cX7_node 0 = .ok (.iload_n 1, 1) := by decide +kernel
theorem dX7_node_1 : decode cX7_node 1 = .ok (.iconst 1, 1) := by decide +kernel
theorem dX7_node_2 : decode cX7_node 2 = .ok (.if_icmp .lt 19, 3) := by decide +kernel
theorem dX7_node_5 : decode cX7_node 5 = .ok (.iload_n 1, 1) := by decide +kernel
theorem dX7_node_6 : decode cX7_node 6 = .ok (.bipush 20, 2) := by decide +kernel
theorem dX7_node_8 : decode cX7_node 8 = .ok (.if_icmp .gt 13, 3) := by decide +kernel
theorem dX7_node_11 : decode cX7_node 11 = .ok (.aload_n 0, 1) := by decide +kernel
theorem dX7_node_12 : decode cX7_node 12 = .ok (.getfield 64, 3) := by decide +kernel
theorem dX7_node_15 : decode cX7_node 15 = .ok (.sipush 4000, 3) := by decide +kernel
theorem dX7_node_18 : decode cX7_node 18 = .ok (.if_icmp .ne 5, 3) := by decide +kernel
theorem dX7_node_21 : decode cX7_node 21 = .ok (.iconst (-1), 1) := by decide +kernel
theorem dX7_node_22 : decode cX7_node 22 = .ok (.ireturn, 1) := by decide +kernel
theorem dX7_node_23 : decode cX7_node 23 = .ok (.aload_n 0, 1) := by decide +kernel
theorem dX7_node_24 : decode cX7_node 24 = .ok (.getfield 13, 3) := by decide +kernel
theorem dX7_node_27 : decode cX7_node 27 = .ok (.aload_n 0, 1) := by decide +kernel
theorem dX7_node_28 : decode cX7_node 28 = .ok (.getfield 64, 3) := by decide +kernel
theorem dX7_node_31 : decode cX7_node 31 = .ok (.iload_n 1, 1) := by decide +kernel
theorem dX7_node_32 : decode cX7_node 32 = .ok (.iastore, 1) := by decide +kernel
theorem dX7_node_33 : decode cX7_node 33 = .ok (.aload_n 0, 1) := by decide +kernel
theorem dX7_node_34 : decode cX7_node 34 = .ok (.aload_n 0, 1) := by decide +kernel
theorem dX7_node_35 : decode cX7_node 35 = .ok (.getfield 64, 3) := by decide +kernel
theorem dX7_node_38 : decode cX7_node 38 = .ok (.iconst 0, 1) := by decide +kernel
theorem dX7_node_39 : decode cX7_node 39 = .ok (.iload_n 2, 1) := by decide +kernel
theorem dX7_node_40 : decode cX7_node 40 = .ok (.invokevirtual 71, 3) := by decide +kernel
theorem dX7_node_43 : decode cX7_node 43 = .ok (.aload_n 0, 1) := by decide +kernel
theorem dX7_node_44 : decode cX7_node 44 = .ok (.aload_n 0, 1) := by decide +kernel
theorem dX7_node_45 : decode cX7_node 45 = .ok (.getfield 64, 3) := by decide +kernel
theorem dX7_node_48 : decode cX7_node 48 = .ok (.iconst 1, 1) := by decide +kernel
theorem dX7_node_49 : decode cX7_node 49 = .ok (.iload_n 3, 1) := by decide +kernel
theorem dX7_node_50 : decode cX7_node 50 = .ok (.invokevirtual 71, 3) := by decide +kernel
theorem dX7_node_53 : decode cX7_node 53 = .ok (.aload_n 0, 1) := by decide +kernel
theorem dX7_node_54 : decode cX7_node 54 = .ok (.aload_n 0, 1) := by decide +kernel
theorem dX7_node_55 : decode cX7_node 55 = .ok (.getfield 64, 3) := by decide +kernel
theorem dX7_node_58 : decode cX7_node 58 = .ok (.iconst 2, 1) := by decide +kernel
theorem dX7_node_59 : decode cX7_node 59 = .ok (.iload 4, 2) := by decide +kernel
theorem dX7_node_61 : decode cX7_node 61 = .ok (.invokevirtual 71, 3) := by decide +kernel
theorem dX7_node_64 : decode cX7_node 64 = .ok (.aload_n 0, 1) := by decide +kernel
theorem dX7_node_65 : decode cX7_node 65 = .ok (.dup, 1) := by decide +kernel
theorem dX7_node_66 : decode cX7_node 66 = .ok (.getfield 64, 3) := by decide +kernel
theorem dX7_node_69 : decode cX7_node 69 = .ok (.iconst 1, 1) := by decide +kernel
theorem dX7_node_70 : decode cX7_node 70 = .ok (.iadd, 1) := by decide +kernel
theorem dX7_node_71 : decode cX7_node 71 = .ok (.putfield 64, 3) := by decide +kernel
theorem dX7_node_74 : decode cX7_node 74 = .ok (.aload_n 0, 1) := by decide +kernel
theorem dX7_node_75 : decode cX7_node 75 = .ok (.getfield 64, 3) := by decide +kernel
theorem dX7_node_78 : decode cX7_node 78 = .ok (.iconst 1, 1) := by decide +kernel
theorem dX7_node_79 : decode cX7_node 79 = .ok (.isub, 1) := by decide +kernel
theorem dX7_node_80 : decode cX7_node 80 = .ok (.ireturn, 1) := by decide +kernel
theorem dX7_part_0 : decode cX7_part 0 = .ok (.iload_n 1, 1) := by decide +kernel
theorem dX7_part_1 : decode cX7_part 1 = .ok (.ifCond .lt 20, 3) := by decide +kernel
theorem dX7_part_4 : decode cX7_part 4 = .ok (.iload_n 1, 1) := by decide +kernel
theorem dX7_part_5 : decode cX7_part 5 = .ok (.aload_n 0, 1) := by decide +kernel
theorem dX7_part_6 : decode cX7_part 6 = .ok (.getfield 64, 3) := by decide +kernel
theorem dX7_part_9 : decode cX7_part 9 = .ok (.if_icmp .ge 12, 3) := by decide +kernel
theorem dX7_part_12 : decode cX7_part 12 = .ok (.iload_n 2, 1) := by decide +kernel
theorem dX7_part_13 : decode cX7_part 13 = .ok (.ifCond .lt 8, 3) := by decide +kernel
theorem dX7_part_16 : decode cX7_part 16 = .ok (.iload_n 2, 1) := by decide +kernel
theorem dX7_part_17 : decode cX7_part 17 = .ok (.iconst 2, 1) := by decide +kernel
theorem dX7_part_18 : decode cX7_part 18 = .ok (.if_icmp .le 5, 3) := by decide +kernel
theorem dX7_part_21 : decode cX7_part 21 = .ok (.iconst (-1), 1) := by decide +kernel
theorem dX7_part_22 : decode cX7_part 22 = .ok (.ireturn, 1) := by decide +kernel
theorem dX7_part_23 : decode cX7_part 23 = .ok (.aload_n 0, 1) := by decide +kernel
theorem dX7_part_24 : decode cX7_part 24 = .ok (.iload_n 1, 1) := by decide +kernel
theorem dX7_part_25 : decode cX7_part 25 = .ok (.iload_n 2, 1) := by decide +kernel
theorem dX7_part_26 : decode cX7_part 26 = .ok (.iload_n 3, 1) := by decide +kernel
theorem dX7_part_27 : decode cX7_part 27 = .ok (.invokevirtual 71, 3) := by decide +kernel
theorem dX7_part_30 : decode cX7_part 30 = .ok (.iconst 0, 1) := by decide +kernel
theorem dX7_part_31 : decode cX7_part 31 = .ok (.ireturn, 1) := by decide +kernel
theorem dX7_number_0 : decode cX7_number 0 = .ok (.aload_n 0, 1) := by decide +kernel
theorem dX7_number_1 : decode cX7_number 1 = .ok (.getfield 16, 3) := by decide +kernel
theorem dX7_number_4 : decode cX7_number 4 = .ok (.iconst 3, 1) := by decide +kernel
theorem dX7_number_5 : decode cX7_number 5 = .ok (.iload_n 1, 1) := by decide +kernel
theorem dX7_number_6 : decode cX7_number 6 = .ok (.imul, 1) := by decide +kernel
theorem dX7_number_7 : decode cX7_number 7 = .ok (.iload_n 2, 1) := by decide +kernel
theorem dX7_number_8 : decode cX7_number 8 = .ok (.iadd, 1) := by decide +kernel
theorem dX7_number_9 : decode cX7_number 9 = .ok (.iaload, 1) := by decide +kernel
theorem dX7_number_10 : decode cX7_number 10 = .ok (.ireturn, 1) := by decide +kernel
theorem dX7_make_0 : decode cX7_make 0 = .ok (.aload_n 0, 1) := by decide +kernel
theorem dX7_make_1 : decode cX7_make 1 = .ok (.getfield 75, 3) := by decide +kernel
theorem dX7_make_4 : decode cX7_make 4 = .ok (.istore 6, 2) := by decide +kernel
theorem dX7_make_6 : decode cX7_make 6 = .ok (.aload_n 0, 1) := by decide +kernel
theorem dX7_make_7 : decode cX7_make 7 = .ok (.dup, 1) := by decide +kernel
theorem dX7_make_8 : decode cX7_make 8 = .ok (.getfield 75, 3) := by decide +kernel
theorem dX7_make_11 : decode cX7_make 11 = .ok (.iconst 1, 1) := by decide +kernel
theorem dX7_make_12 : decode cX7_make 12 = .ok (.iadd, 1) := by decide +kernel
theorem dX7_make_13 : decode cX7_make 13 = .ok (.putfield 75, 3) := by decide +kernel
theorem dX7_make_16 : decode cX7_make 16 = .ok (.aload_n 0, 1) := by decide +kernel
theorem dX7_make_17 : decode cX7_make 17 = .ok (.getfield 24, 3) := by decide +kernel
theorem dX7_make_20 : decode cX7_make 20 = .ok (.iload 6, 2) := by decide +kernel
theorem dX7_make_22 : decode cX7_make 22 = .ok (.iload_n 1, 1) := by decide +kernel
theorem dX7_make_23 : decode cX7_make 23 = .ok (.iastore, 1) := by decide +kernel
theorem dX7_make_24 : decode cX7_make 24 = .ok (.aload_n 0, 1) := by decide +kernel
theorem dX7_make_25 : decode cX7_make 25 = .ok (.getfield 33, 3) := by decide +kernel
theorem dX7_make_28 : decode cX7_make 28 = .ok (.iload 6, 2) := by decide +kernel
theorem dX7_make_30 : decode cX7_make 30 = .ok (.lload_n 2, 1) := by decide +kernel
theorem dX7_make_31 : decode cX7_make 31 = .ok (.lastore, 1) := by decide +kernel
theorem dX7_make_32 : decode cX7_make 32 = .ok (.aload_n 0, 1) := by decide +kernel
theorem dX7_make_33 : decode cX7_make 33 = .ok (.getfield 27, 3) := by decide +kernel
theorem dX7_make_36 : decode cX7_make 36 = .ok (.iload 6, 2) := by decide +kernel
theorem dX7_make_38 : decode cX7_make 38 = .ok (.iload 4, 2) := by decide +kernel
theorem dX7_make_40 : decode cX7_make 40 = .ok (.iastore, 1) := by decide +kernel
theorem dX7_make_41 : decode cX7_make 41 = .ok (.aload_n 0, 1) := by decide +kernel
theorem dX7_make_42 : decode cX7_make 42 = .ok (.getfield 30, 3) := by decide +kernel
theorem dX7_make_45 : decode cX7_make 45 = .ok (.iload 6, 2) := by decide +kernel
theorem dX7_make_47 : decode cX7_make 47 = .ok (.iload 5, 2) := by decide +kernel
theorem dX7_make_49 : decode cX7_make 49 = .ok (.iastore, 1) := by decide +kernel
theorem dX7_make_50 : decode cX7_make 50 = .ok (.iload 6, 2) := by decide +kernel
theorem dX7_make_52 : decode cX7_make 52 = .ok (.ireturn, 1) := by decide +kernel
theorem dX7_num_0 : decode cX7_num 0 = .ok (.aload_n 0, 1) := by decide +kernel
theorem dX7_num_1 : decode cX7_num 1 = .ok (.iconst 1, 1) := by decide +kernel
theorem dX7_num_2 : decode cX7_num 2 = .ok (.lload_n 1, 1) := by decide +kernel
theorem dX7_num_3 : decode cX7_num 3 = .ok (.iconst (-1), 1) := by decide +kernel
theorem dX7_num_4 : decode cX7_num 4 = .ok (.iconst (-1), 1) := by decide +kernel
theorem dX7_num_5 : decode cX7_num 5 = .ok (.invokevirtual 78, 3) := by decide +kernel
theorem dX7_num_8 : decode cX7_num 8 = .ok (.ireturn, 1) := by decide +kernel
theorem dX7_fail_0 : decode cX7_fail 0 = .ok (.aload_n 0, 1) := by decide +kernel
theorem dX7_fail_1 : decode cX7_fail 1 = .ok (.iload_n 1, 1) := by decide +kernel
theorem dX7_fail_2 : decode cX7_fail 2 = .ok (.putfield 82, 3) := by decide +kernel
theorem dX7_fail_5 : decode cX7_fail 5 = .ok (.aload_n 0, 1) := by decide +kernel
theorem dX7_fail_6 : decode cX7_fail 6 = .ok (.iload_n 2, 1) := by decide +kernel
theorem dX7_fail_7 : decode cX7_fail 7 = .ok (.putfield 85, 3) := by decide +kernel
theorem dX7_fail_10 : decode cX7_fail 10 = .ok (.iconst (-1), 1) := by decide +kernel
theorem dX7_fail_11 : decode cX7_fail 11 = .ok (.ireturn, 1) := by decide +kernel
theorem dX7_is_0 : decode cX7_is 0 = .ok (.iload_n 2, 1) := by decide +kernel
theorem dX7_is_1 : decode cX7_is 1 = .ok (.iconst (-1), 1) := by decide +kernel
theorem dX7_is_2 : decode cX7_is 2 = .ok (.if_icmp .eq 30, 3) := by decide +kernel
theorem dX7_is_5 : decode cX7_is 5 = .ok (.aload_n 0, 1) := by decide +kernel
theorem dX7_is_6 : decode cX7_is 6 = .ok (.getfield 24, 3) := by decide +kernel
theorem dX7_is_9 : decode cX7_is 9 = .ok (.iload_n 2, 1) := by decide +kernel
theorem dX7_is_10 : decode cX7_is 10 = .ok (.iaload, 1) := by decide +kernel
theorem dX7_is_11 : decode cX7_is 11 = .ok (.iload_n 3, 1) := by decide +kernel
theorem dX7_is_12 : decode cX7_is 12 = .ok (.if_icmp .eq 18, 3) := by decide +kernel
theorem dX7_is_15 : decode cX7_is 15 = .ok (.iload_n 3, 1) := by decide +kernel
theorem dX7_is_16 : decode cX7_is 16 = .ok (.iconst 2, 1) := by decide +kernel
theorem dX7_is_17 : decode cX7_is 17 = .ok (.if_icmp .ne 15, 3) := by decide +kernel
theorem dX7_is_20 : decode cX7_is 20 = .ok (.aload_n 0, 1) := by decide +kernel
theorem dX7_is_21 : decode cX7_is 21 = .ok (.getfield 24, 3) := by decide +kernel
theorem dX7_is_24 : decode cX7_is 24 = .ok (.iload_n 2, 1) := by decide +kernel
theorem dX7_is_25 : decode cX7_is 25 = .ok (.iaload, 1) := by decide +kernel
theorem dX7_is_26 : decode cX7_is 26 = .ok (.iconst 3, 1) := by decide +kernel
theorem dX7_is_27 : decode cX7_is 27 = .ok (.if_icmp .ne 5, 3) := by decide +kernel
theorem dX7_is_30 : decode cX7_is 30 = .ok (.iconst 1, 1) := by decide +kernel
theorem dX7_is_31 : decode cX7_is 31 = .ok (.ireturn, 1) := by decide +kernel
theorem dX7_is_32 : decode cX7_is 32 = .ok (.aload_n 0, 1) := by decide +kernel
theorem dX7_is_33 : decode cX7_is 33 = .ok (.iload_n 2, 1) := by decide +kernel
theorem dX7_is_34 : decode cX7_is 34 = .ok (.iconst (-1), 1) := by decide +kernel
theorem dX7_is_35 : decode cX7_is 35 = .ok (.if_icmp .ne 7, 3) := by decide +kernel
theorem dX7_is_38 : decode cX7_is 38 = .ok (.iconst 1, 1) := by decide +kernel
theorem dX7_is_39 : decode cX7_is 39 = .ok (.goto 4, 3) := by decide +kernel
theorem dX7_is_42 : decode cX7_is 42 = .ok (.iconst 3, 1) := by decide +kernel
end
section
theorem dX7_is_43 : decode cX7_is 43 = .ok (.iload_n 1, 1) := by decide +kernel
theorem dX7_is_44 : decode cX7_is 44 = .ok (.invokevirtual 88, 3) := by decide +kernel
theorem dX7_is_47 : decode cX7_is 47 = .ok (.pop, 1) := by decide +kernel
theorem dX7_is_48 : decode cX7_is 48 = .ok (.iconst 0, 1) := by decide +kernel
theorem dX7_is_49 : decode cX7_is 49 = .ok (.ireturn, 1) := by decide +kernel
theorem dX7_enter_0 : decode cX7_enter 0 = .ok (.aload_n 0, 1) := by decide +kernel
theorem dX7_enter_1 : decode cX7_enter 1 = .ok (.getfield 92, 3) := by decide +kernel
theorem dX7_enter_4 : decode cX7_enter 4 = .ok (.ifCond .ne 9, 3) := by decide +kernel
theorem dX7_enter_7 : decode cX7_enter 7 = .ok (.aload_n 0, 1) := by decide +kernel
theorem dX7_enter_8 : decode cX7_enter 8 = .ok (.iconst (-1), 1) := by decide +kernel
theorem dX7_enter_9 : decode cX7_enter 9 = .ok (.putfield 82, 3) := by decide +kernel
theorem dX7_enter_12 : decode cX7_enter 12 = .ok (.return_, 1) := by decide +kernel
theorem dX7_enter_13 : decode cX7_enter 13 = .ok (.aload_n 0, 1) := by decide +kernel
theorem dX7_enter_14 : decode cX7_enter 14 = .ok (.dup, 1) := by decide +kernel
theorem dX7_enter_15 : decode cX7_enter 15 = .ok (.getfield 92, 3) := by decide +kernel
theorem dX7_enter_18 : decode cX7_enter 18 = .ok (.iconst 1, 1) := by decide +kernel
theorem dX7_enter_19 : decode cX7_enter 19 = .ok (.isub, 1) := by decide +kernel
theorem dX7_enter_20 : decode cX7_enter 20 = .ok (.putfield 92, 3) := by decide +kernel
theorem dX7_enter_23 : decode cX7_enter 23 = .ok (.aload_n 0, 1) := by decide +kernel
theorem dX7_enter_24 : decode cX7_enter 24 = .ok (.dup, 1) := by decide +kernel
theorem dX7_enter_25 : decode cX7_enter 25 = .ok (.getfield 95, 3) := by decide +kernel
theorem dX7_enter_28 : decode cX7_enter 28 = .ok (.iconst 1, 1) := by decide +kernel
theorem dX7_enter_29 : decode cX7_enter 29 = .ok (.iadd, 1) := by decide +kernel
theorem dX7_enter_30 : decode cX7_enter 30 = .ok (.putfield 95, 3) := by decide +kernel
theorem dX7_enter_33 : decode cX7_enter 33 = .ok (.aload_n 0, 1) := by decide +kernel
theorem dX7_enter_34 : decode cX7_enter 34 = .ok (.getfield 98, 3) := by decide +kernel
theorem dX7_enter_37 : decode cX7_enter 37 = .ok (.sipush 200, 3) := by decide +kernel
theorem dX7_enter_40 : decode cX7_enter 40 = .ok (.if_icmp .ne 12, 3) := by decide +kernel
theorem dX7_enter_43 : decode cX7_enter 43 = .ok (.aload_n 0, 1) := by decide +kernel
theorem dX7_enter_44 : decode cX7_enter 44 = .ok (.bipush 7, 2) := by decide +kernel
theorem dX7_enter_46 : decode cX7_enter 46 = .ok (.iload_n 1, 1) := by decide +kernel
theorem dX7_enter_47 : decode cX7_enter 47 = .ok (.invokevirtual 88, 3) := by decide +kernel
theorem dX7_enter_50 : decode cX7_enter 50 = .ok (.pop, 1) := by decide +kernel
theorem dX7_enter_51 : decode cX7_enter 51 = .ok (.return_, 1) := by decide +kernel
theorem dX7_enter_52 : decode cX7_enter 52 = .ok (.aload_n 0, 1) := by decide +kernel
theorem dX7_enter_53 : decode cX7_enter 53 = .ok (.dup, 1) := by decide +kernel
theorem dX7_enter_54 : decode cX7_enter 54 = .ok (.getfield 98, 3) := by decide +kernel
theorem dX7_enter_57 : decode cX7_enter 57 = .ok (.iconst 1, 1) := by decide +kernel
theorem dX7_enter_58 : decode cX7_enter 58 = .ok (.iadd, 1) := by decide +kernel
theorem dX7_enter_59 : decode cX7_enter 59 = .ok (.putfield 98, 3) := by decide +kernel
theorem dX7_enter_62 : decode cX7_enter 62 = .ok (.aload_n 0, 1) := by decide +kernel
theorem dX7_enter_63 : decode cX7_enter 63 = .ok (.getfield 46, 3) := by decide +kernel
theorem dX7_enter_66 : decode cX7_enter 66 = .ok (.aload_n 0, 1) := by decide +kernel
theorem dX7_enter_67 : decode cX7_enter 67 = .ok (.getfield 98, 3) := by decide +kernel
theorem dX7_enter_70 : decode cX7_enter 70 = .ok (.iload_n 1, 1) := by decide +kernel
theorem dX7_enter_71 : decode cX7_enter 71 = .ok (.iastore, 1) := by decide +kernel
theorem dX7_enter_72 : decode cX7_enter 72 = .ok (.aload_n 0, 1) := by decide +kernel
theorem dX7_enter_73 : decode cX7_enter 73 = .ok (.getfield 49, 3) := by decide +kernel
theorem dX7_enter_76 : decode cX7_enter 76 = .ok (.aload_n 0, 1) := by decide +kernel
theorem dX7_enter_77 : decode cX7_enter 77 = .ok (.getfield 98, 3) := by decide +kernel
theorem dX7_enter_80 : decode cX7_enter 80 = .ok (.iconst 0, 1) := by decide +kernel
theorem dX7_enter_81 : decode cX7_enter 81 = .ok (.iastore, 1) := by decide +kernel
theorem dX7_enter_82 : decode cX7_enter 82 = .ok (.iconst 0, 1) := by decide +kernel
theorem dX7_enter_83 : decode cX7_enter 83 = .ok (.istore_n 2, 1) := by decide +kernel
theorem dX7_enter_84 : decode cX7_enter 84 = .ok (.iload_n 2, 1) := by decide +kernel
theorem dX7_enter_85 : decode cX7_enter 85 = .ok (.iconst 3, 1) := by decide +kernel
theorem dX7_enter_86 : decode cX7_enter 86 = .ok (.if_icmp .ge 25, 3) := by decide +kernel
theorem dX7_enter_89 : decode cX7_enter 89 = .ok (.aload_n 0, 1) := by decide +kernel
theorem dX7_enter_90 : decode cX7_enter 90 = .ok (.getfield 52, 3) := by decide +kernel
theorem dX7_enter_93 : decode cX7_enter 93 = .ok (.iconst 3, 1) := by decide +kernel
theorem dX7_enter_94 : decode cX7_enter 94 = .ok (.aload_n 0, 1) := by decide +kernel
theorem dX7_enter_95 : decode cX7_enter 95 = .ok (.getfield 98, 3) := by decide +kernel
theorem dX7_enter_98 : decode cX7_enter 98 = .ok (.imul, 1) := by decide +kernel
theorem dX7_enter_99 : decode cX7_enter 99 = .ok (.iconst 3, 1) := by decide +kernel
theorem dX7_enter_100 : decode cX7_enter 100 = .ok (.isub, 1) := by decide +kernel
theorem dX7_enter_101 : decode cX7_enter 101 = .ok (.iload_n 2, 1) := by decide +kernel
theorem dX7_enter_102 : decode cX7_enter 102 = .ok (.iadd, 1) := by decide +kernel
theorem dX7_enter_103 : decode cX7_enter 103 = .ok (.iconst (-1), 1) := by decide +kernel
theorem dX7_enter_104 : decode cX7_enter 104 = .ok (.iastore, 1) := by decide +kernel
theorem dX7_enter_105 : decode cX7_enter 105 = .ok (.iinc 2 1, 3) := by decide +kernel
theorem dX7_enter_108 : decode cX7_enter 108 = .ok (.goto (-24), 3) := by decide +kernel
theorem dX7_enter_111 : decode cX7_enter 111 = .ok (.return_, 1) := by decide +kernel
theorem dX7_begin_0 : decode cX7_begin 0 = .ok (.aload_n 0, 1) := by decide +kernel
theorem dX7_begin_1 : decode cX7_begin 1 = .ok (.iload_n 1, 1) := by decide +kernel
theorem dX7_begin_2 : decode cX7_begin 2 = .ok (.iload_n 2, 1) := by decide +kernel
theorem dX7_begin_3 : decode cX7_begin 3 = .ok (.invokevirtual 101, 3) := by decide +kernel
theorem dX7_begin_6 : decode cX7_begin 6 = .ok (.iconst (-1), 1) := by decide +kernel
theorem dX7_begin_7 : decode cX7_begin 7 = .ok (.if_icmp .ne 13, 3) := by decide +kernel
theorem dX7_begin_10 : decode cX7_begin 10 = .ok (.aload_n 0, 1) := by decide +kernel
theorem dX7_begin_11 : decode cX7_begin 11 = .ok (.iconst 1, 1) := by decide +kernel
theorem dX7_begin_12 : decode cX7_begin 12 = .ok (.iload_n 1, 1) := by decide +kernel
theorem dX7_begin_13 : decode cX7_begin 13 = .ok (.invokevirtual 88, 3) := by decide +kernel
theorem dX7_begin_16 : decode cX7_begin 16 = .ok (.pop, 1) := by decide +kernel
theorem dX7_begin_17 : decode cX7_begin 17 = .ok (.goto 13, 3) := by decide +kernel
theorem dX7_begin_20 : decode cX7_begin 20 = .ok (.aload_n 0, 1) := by decide +kernel
theorem dX7_begin_21 : decode cX7_begin 21 = .ok (.aload_n 0, 1) := by decide +kernel
theorem dX7_begin_22 : decode cX7_begin 22 = .ok (.iload_n 1, 1) := by decide +kernel
theorem dX7_begin_23 : decode cX7_begin 23 = .ok (.iload_n 2, 1) := by decide +kernel
theorem dX7_begin_24 : decode cX7_begin 24 = .ok (.invokevirtual 101, 3) := by decide +kernel
theorem dX7_begin_27 : decode cX7_begin 27 = .ok (.invokevirtual 104, 3) := by decide +kernel
theorem dX7_begin_30 : decode cX7_begin 30 = .ok (.return_, 1) := by decide +kernel
theorem dX7_run_0 : decode cX7_run 0 = .ok (.iload_n 2, 1) := by decide +kernel
theorem dX7_run_1 : decode cX7_run 1 = .ok (.ifCond .lt 10, 3) := by decide +kernel
theorem dX7_run_4 : decode cX7_run 4 = .ok (.iload_n 2, 1) := by decide +kernel
theorem dX7_run_5 : decode cX7_run 5 = .ok (.sipush 10000, 3) := by decide +kernel
theorem dX7_run_8 : decode cX7_run 8 = .ok (.if_icmp .le 6, 3) := by decide +kernel
theorem dX7_run_11 : decode cX7_run 11 = .ok (.bipush (-2), 2) := by decide +kernel
theorem dX7_run_13 : decode cX7_run 13 = .ok (.ireturn, 1) := by decide +kernel
theorem dX7_run_14 : decode cX7_run 14 = .ok (.aload_n 0, 1) := by decide +kernel
theorem dX7_run_15 : decode cX7_run 15 = .ok (.iconst (-1), 1) := by decide +kernel
theorem dX7_run_16 : decode cX7_run 16 = .ok (.putfield 58, 3) := by decide +kernel
theorem dX7_run_19 : decode cX7_run 19 = .ok (.aload_n 0, 1) := by decide +kernel
theorem dX7_run_20 : decode cX7_run 20 = .ok (.iconst 0, 1) := by decide +kernel
theorem dX7_run_21 : decode cX7_run 21 = .ok (.putfield 108, 3) := by decide +kernel
theorem dX7_run_24 : decode cX7_run 24 = .ok (.aload_n 0, 1) := by decide +kernel
theorem dX7_run_25 : decode cX7_run 25 = .ok (.iconst (-1), 1) := by decide +kernel
theorem dX7_run_26 : decode cX7_run 26 = .ok (.putfield 61, 3) := by decide +kernel
theorem dX7_run_29 : decode cX7_run 29 = .ok (.aload_n 0, 1) := by decide +kernel
theorem dX7_run_30 : decode cX7_run 30 = .ok (.iconst 0, 1) := by decide +kernel
theorem dX7_run_31 : decode cX7_run 31 = .ok (.putfield 95, 3) := by decide +kernel
theorem dX7_run_34 : decode cX7_run 34 = .ok (.iload_n 1, 1) := by decide +kernel
theorem dX7_run_35 : decode cX7_run 35 = .ok (.ifCond .lt 11, 3) := by decide +kernel
theorem dX7_run_38 : decode cX7_run 38 = .ok (.iload_n 1, 1) := by decide +kernel
theorem dX7_run_39 : decode cX7_run 39 = .ok (.aload_n 0, 1) := by decide +kernel
theorem dX7_run_40 : decode cX7_run 40 = .ok (.getfield 64, 3) := by decide +kernel
theorem dX7_run_43 : decode cX7_run 43 = .ok (.if_icmp .lt 10, 3) := by decide +kernel
theorem dX7_run_46 : decode cX7_run 46 = .ok (.aload_n 0, 1) := by decide +kernel
theorem dX7_run_47 : decode cX7_run 47 = .ok (.iconst 1, 1) := by decide +kernel
theorem dX7_run_48 : decode cX7_run 48 = .ok (.putfield 108, 3) := by decide +kernel
theorem dX7_run_51 : decode cX7_run 51 = .ok (.iconst 2, 1) := by decide +kernel
theorem dX7_run_52 : decode cX7_run 52 = .ok (.ireturn, 1) := by decide +kernel
theorem dX7_run_53 : decode cX7_run 53 = .ok (.aload_n 0, 1) := by decide +kernel
theorem dX7_run_54 : decode cX7_run 54 = .ok (.iload_n 2, 1) := by decide +kernel
theorem dX7_run_55 : decode cX7_run 55 = .ok (.ldc 23, 2) := by decide +kernel
theorem dX7_run_57 : decode cX7_run 57 = .ok (.aload_n 0, 1) := by decide +kernel
theorem dX7_run_58 : decode cX7_run 58 = .ok (.getfield 111, 3) := by decide +kernel
theorem dX7_run_61 : decode cX7_run 61 = .ok (.isub, 1) := by decide +kernel
theorem dX7_run_62 : decode cX7_run 62 = .ok (.if_icmp .ge 7, 3) := by decide +kernel
theorem dX7_run_65 : decode cX7_run 65 = .ok (.iload_n 2, 1) := by decide +kernel
theorem dX7_run_66 : decode cX7_run 66 = .ok (.goto 10, 3) := by decide +kernel
theorem dX7_run_69 : decode cX7_run 69 = .ok (.ldc 23, 2) := by decide +kernel
theorem dX7_run_71 : decode cX7_run 71 = .ok (.aload_n 0, 1) := by decide +kernel
theorem dX7_run_72 : decode cX7_run 72 = .ok (.getfield 111, 3) := by decide +kernel
theorem dX7_run_75 : decode cX7_run 75 = .ok (.isub, 1) := by decide +kernel
theorem dX7_run_76 : decode cX7_run 76 = .ok (.putfield 92, 3) := by decide +kernel
theorem dX7_run_79 : decode cX7_run 79 = .ok (.aload_n 0, 1) := by decide +kernel
theorem dX7_run_80 : decode cX7_run 80 = .ok (.iconst 0, 1) := by decide +kernel
theorem dX7_run_81 : decode cX7_run 81 = .ok (.putfield 82, 3) := by decide +kernel
theorem dX7_run_84 : decode cX7_run 84 = .ok (.aload_n 0, 1) := by decide +kernel
theorem dX7_run_85 : decode cX7_run 85 = .ok (.iconst (-1), 1) := by decide +kernel
theorem dX7_run_86 : decode cX7_run 86 = .ok (.putfield 114, 3) := by decide +kernel
theorem dX7_run_89 : decode cX7_run 89 = .ok (.aload_n 0, 1) := by decide +kernel
theorem dX7_run_90 : decode cX7_run 90 = .ok (.iconst 0, 1) := by decide +kernel
theorem dX7_run_91 : decode cX7_run 91 = .ok (.putfield 98, 3) := by decide +kernel
theorem dX7_run_94 : decode cX7_run 94 = .ok (.aload_n 0, 1) := by decide +kernel
theorem dX7_run_95 : decode cX7_run 95 = .ok (.iload_n 1, 1) := by decide +kernel
theorem dX7_run_96 : decode cX7_run 96 = .ok (.invokevirtual 104, 3) := by decide +kernel
theorem dX7_run_99 : decode cX7_run 99 = .ok (.aload_n 0, 1) := by decide +kernel
theorem dX7_run_100 : decode cX7_run 100 = .ok (.getfield 98, 3) := by decide +kernel
theorem dX7_run_103 : decode cX7_run 103 = .ok (.ifCond .le 49, 3) := by decide +kernel
theorem dX7_run_106 : decode cX7_run 106 = .ok (.aload_n 0, 1) := by decide +kernel
theorem dX7_run_107 : decode cX7_run 107 = .ok (.getfield 82, 3) := by decide +kernel
theorem dX7_run_110 : decode cX7_run 110 = .ok (.ifCond .lt 42, 3) := by decide +kernel
theorem dX7_run_113 : decode cX7_run 113 = .ok (.aload_n 0, 1) := by decide +kernel
theorem dX7_run_114 : decode cX7_run 114 = .ok (.getfield 82, 3) := by decide +kernel
theorem dX7_run_117 : decode cX7_run 117 = .ok (.ifCond .le 19, 3) := by decide +kernel
theorem dX7_run_120 : decode cX7_run 120 = .ok (.aload_n 0, 1) := by decide +kernel
theorem dX7_run_121 : decode cX7_run 121 = .ok (.aload_n 0, 1) := by decide +kernel
theorem dX7_run_122 : decode cX7_run 122 = .ok (.getfield 46, 3) := by decide +kernel
theorem dX7_run_125 : decode cX7_run 125 = .ok (.aload_n 0, 1) := by decide +kernel
theorem dX7_run_126 : decode cX7_run 126 = .ok (.getfield 98, 3) := by decide +kernel
theorem dX7_run_129 : decode cX7_run 129 = .ok (.iaload, 1) := by decide +kernel
theorem dX7_run_130 : decode cX7_run 130 = .ok (.invokevirtual 117, 3) := by decide +kernel
theorem dX7_run_133 : decode cX7_run 133 = .ok (.goto (-34), 3) := by decide +kernel
theorem dX7_run_136 : decode cX7_run 136 = .ok (.aload_n 0, 1) := by decide +kernel
theorem dX7_run_137 : decode cX7_run 137 = .ok (.aload_n 0, 1) := by decide +kernel
theorem dX7_run_138 : decode cX7_run 138 = .ok (.getfield 46, 3) := by decide +kernel
theorem dX7_run_141 : decode cX7_run 141 = .ok (.aload_n 0, 1) := by decide +kernel
theorem dX7_run_142 : decode cX7_run 142 = .ok (.getfield 98, 3) := by decide +kernel
theorem dX7_run_145 : decode cX7_run 145 = .ok (.iaload, 1) := by decide +kernel
theorem dX7_run_146 : decode cX7_run 146 = .ok (.invokevirtual 120, 3) := by decide +kernel
theorem dX7_run_149 : decode cX7_run 149 = .ok (.goto (-50), 3) := by decide +kernel
theorem dX7_run_152 : decode cX7_run 152 = .ok (.aload_n 0, 1) := by decide +kernel
theorem dX7_run_153 : decode cX7_run 153 = .ok (.dup, 1) := by decide +kernel
theorem dX7_run_154 : decode cX7_run 154 = .ok (.getfield 111, 3) := by decide +kernel
theorem dX7_run_157 : decode cX7_run 157 = .ok (.aload_n 0, 1) := by decide +kernel
theorem dX7_run_158 : decode cX7_run 158 = .ok (.getfield 95, 3) := by decide +kernel
theorem dX7_run_161 : decode cX7_run 161 = .ok (.iadd, 1) := by decide +kernel
theorem dX7_run_162 : decode cX7_run 162 = .ok (.putfield 111, 3) := by decide +kernel
theorem dX7_run_165 : decode cX7_run 165 = .ok (.aload_n 0, 1) := by decide +kernel
theorem dX7_run_166 : decode cX7_run 166 = .ok (.getfield 82, 3) := by decide +kernel
theorem dX7_run_169 : decode cX7_run 169 = .ok (.ifCond .ge 5, 3) := by decide +kernel
theorem dX7_run_172 : decode cX7_run 172 = .ok (.iconst (-1), 1) := by decide +kernel
theorem dX7_run_173 : decode cX7_run 173 = .ok (.ireturn, 1) := by decide +kernel
theorem dX7_run_174 : decode cX7_run 174 = .ok (.aload_n 0, 1) := by decide +kernel
theorem dX7_run_175 : decode cX7_run 175 = .ok (.getfield 82, 3) := by decide +kernel
theorem dX7_run_178 : decode cX7_run 178 = .ok (.ifCond .le 26, 3) := by decide +kernel
theorem dX7_run_181 : decode cX7_run 181 = .ok (.aload_n 0, 1) := by decide +kernel
theorem dX7_run_182 : decode cX7_run 182 = .ok (.aload_n 0, 1) := by decide +kernel
theorem dX7_run_183 : decode cX7_run 183 = .ok (.getfield 82, 3) := by decide +kernel
theorem dX7_run_186 : decode cX7_run 186 = .ok (.putfield 108, 3) := by decide +kernel
theorem dX7_run_189 : decode cX7_run 189 = .ok (.aload_n 0, 1) := by decide +kernel
theorem dX7_run_190 : decode cX7_run 190 = .ok (.aload_n 0, 1) := by decide +kernel
theorem dX7_run_191 : decode cX7_run 191 = .ok (.getfield 85, 3) := by decide +kernel
theorem dX7_run_194 : decode cX7_run 194 = .ok (.putfield 61, 3) := by decide +kernel
theorem dX7_run_197 : decode cX7_run 197 = .ok (.iconst 1, 1) := by decide +kernel
theorem dX7_run_198 : decode cX7_run 198 = .ok (.aload_n 0, 1) := by decide +kernel
theorem dX7_run_199 : decode cX7_run 199 = .ok (.getfield 82, 3) := by decide +kernel
theorem dX7_run_202 : decode cX7_run 202 = .ok (.iadd, 1) := by decide +kernel
theorem dX7_run_203 : decode cX7_run 203 = .ok (.ireturn, 1) := by decide +kernel
theorem dX7_run_204 : decode cX7_run 204 = .ok (.aload_n 0, 1) := by decide +kernel
theorem dX7_run_205 : decode cX7_run 205 = .ok (.aload_n 0, 1) := by decide +kernel
theorem dX7_run_206 : decode cX7_run 206 = .ok (.getfield 114, 3) := by decide +kernel
theorem dX7_run_209 : decode cX7_run 209 = .ok (.putfield 58, 3) := by decide +kernel
theorem dX7_run_212 : decode cX7_run 212 = .ok (.iconst 0, 1) := by decide +kernel
theorem dX7_run_213 : decode cX7_run 213 = .ok (.ireturn, 1) := by decide +kernel
theorem dX7_outward_0 : decode cX7_outward 0 = .ok (.aload_n 0, 1) := by decide +kernel
theorem dX7_outward_1 : decode cX7_outward 1 = .ok (.getfield 13, 3) := by decide +kernel
theorem dX7_outward_4 : decode cX7_outward 4 = .ok (.iload_n 1, 1) := by decide +kernel
theorem dX7_outward_5 : decode cX7_outward 5 = .ok (.iaload, 1) := by decide +kernel
theorem dX7_outward_6 : decode cX7_outward 6 = .ok (.bipush 15, 2) := by decide +kernel
theorem dX7_outward_8 : decode cX7_outward 8 = .ok (.if_icmp .ne 38, 3) := by decide +kernel
theorem dX7_outward_11 : decode cX7_outward 11 = .ok (.aload_n 0, 1) := by decide +kernel
theorem dX7_outward_12 : decode cX7_outward 12 = .ok (.getfield 49, 3) := by decide +kernel
theorem dX7_outward_15 : decode cX7_outward 15 = .ok (.aload_n 0, 1) := by decide +kernel
theorem dX7_outward_16 : decode cX7_outward 16 = .ok (.getfield 98, 3) := by decide +kernel
theorem dX7_outward_19 : decode cX7_outward 19 = .ok (.iaload, 1) := by decide +kernel
theorem dX7_outward_20 : decode cX7_outward 20 = .ok (.iconst 1, 1) := by decide +kernel
theorem dX7_outward_21 : decode cX7_outward 21 = .ok (.if_icmp .ne 25, 3) := by decide +kernel
theorem dX7_outward_24 : decode cX7_outward 24 = .ok (.aload_n 0, 1) := by decide +kernel
theorem dX7_outward_25 : decode cX7_outward 25 = .ok (.iload_n 1, 1) := by decide +kernel
theorem dX7_outward_26 : decode cX7_outward 26 = .ok (.iconst 1, 1) := by decide +kernel
theorem dX7_outward_27 : decode cX7_outward 27 = .ok (.invokevirtual 101, 3) := by decide +kernel
theorem dX7_outward_30 : decode cX7_outward 30 = .ok (.ifCond .eq 27, 3) := by decide +kernel
theorem dX7_outward_33 : decode cX7_outward 33 = .ok (.aload_n 0, 1) := by decide +kernel
theorem dX7_outward_34 : decode cX7_outward 34 = .ok (.iload_n 1, 1) := by decide +kernel
theorem dX7_outward_35 : decode cX7_outward 35 = .ok (.iconst 1, 1) := by decide +kernel
theorem dX7_outward_36 : decode cX7_outward 36 = .ok (.invokevirtual 101, 3) := by decide +kernel
theorem dX7_outward_39 : decode cX7_outward 39 = .ok (.aload_n 0, 1) := by decide +kernel
theorem dX7_outward_40 : decode cX7_outward 40 = .ok (.getfield 82, 3) := by decide +kernel
theorem dX7_outward_43 : decode cX7_outward 43 = .ok (.if_icmp .eq 14, 3) := by decide +kernel
theorem dX7_outward_46 : decode cX7_outward 46 = .ok (.aload_n 0, 1) := by decide +kernel
theorem dX7_outward_47 : decode cX7_outward 47 = .ok (.dup, 1) := by decide +kernel
theorem dX7_outward_48 : decode cX7_outward 48 = .ok (.getfield 98, 3) := by decide +kernel
theorem dX7_outward_51 : decode cX7_outward 51 = .ok (.iconst 1, 1) := by decide +kernel
theorem dX7_outward_52 : decode cX7_outward 52 = .ok (.isub, 1) := by decide +kernel
theorem dX7_outward_53 : decode cX7_outward 53 = .ok (.putfield 98, 3) := by decide +kernel
theorem dX7_outward_56 : decode cX7_outward 56 = .ok (.return_, 1) := by decide +kernel
theorem dX7_outward_57 : decode cX7_outward 57 = .ok (.aload_n 0, 1) := by decide +kernel
theorem dX7_outward_58 : decode cX7_outward 58 = .ok (.getfield 39, 3) := by decide +kernel
theorem dX7_outward_61 : decode cX7_outward 61 = .ok (.iconst 0, 1) := by decide +kernel
theorem dX7_outward_62 : decode cX7_outward 62 = .ok (.aload_n 0, 1) := by decide +kernel
theorem dX7_outward_63 : decode cX7_outward 63 = .ok (.aload_n 0, 1) := by decide +kernel
theorem dX7_outward_64 : decode cX7_outward 64 = .ok (.getfield 82, 3) := by decide +kernel
theorem dX7_outward_67 : decode cX7_outward 67 = .ok (.i2l, 1) := by decide +kernel
theorem dX7_outward_68 : decode cX7_outward 68 = .ok (.invokevirtual 123, 3) := by decide +kernel
theorem dX7_outward_71 : decode cX7_outward 71 = .ok (.iastore, 1) := by decide +kernel
theorem dX7_outward_72 : decode cX7_outward 72 = .ok (.aload_n 0, 1) := by decide +kernel
theorem dX7_outward_73 : decode cX7_outward 73 = .ok (.iconst 0, 1) := by decide +kernel
theorem dX7_outward_74 : decode cX7_outward 74 = .ok (.putfield 82, 3) := by decide +kernel
theorem dX7_outward_77 : decode cX7_outward 77 = .ok (.aload_n 0, 1) := by decide +kernel
theorem dX7_outward_78 : decode cX7_outward 78 = .ok (.getfield 49, 3) := by decide +kernel
theorem dX7_outward_81 : decode cX7_outward 81 = .ok (.aload_n 0, 1) := by decide +kernel
theorem dX7_outward_82 : decode cX7_outward 82 = .ok (.getfield 98, 3) := by decide +kernel
theorem dX7_outward_85 : decode cX7_outward 85 = .ok (.iconst 2, 1) := by decide +kernel
theorem dX7_outward_86 : decode cX7_outward 86 = .ok (.iastore, 1) := by decide +kernel
theorem dX7_outward_87 : decode cX7_outward 87 = .ok (.aload_n 0, 1) := by decide +kernel
theorem dX7_outward_88 : decode cX7_outward 88 = .ok (.iload_n 1, 1) := by decide +kernel
theorem dX7_outward_89 : decode cX7_outward 89 = .ok (.iconst 2, 1) := by decide +kernel
theorem dX7_outward_90 : decode cX7_outward 90 = .ok (.invokevirtual 127, 3) := by decide +kernel
theorem dX7_outward_93 : decode cX7_outward 93 = .ok (.return_, 1) := by decide +kernel
theorem dX7_forward_0 : decode cX7_forward 0 = .ok (.aload_n 0, 1) := by decide +kernel
theorem dX7_forward_1 : decode cX7_forward 1 = .ok (.getfield 13, 3) := by decide +kernel
theorem dX7_forward_4 : decode cX7_forward 4 = .ok (.iload_n 1, 1) := by decide +kernel
theorem dX7_forward_5 : decode cX7_forward 5 = .ok (.iaload, 1) := by decide +kernel
theorem dX7_forward_6 : decode cX7_forward 6 = .ok (.bipush 15, 2) := by decide +kernel
theorem dX7_forward_8 : decode cX7_forward 8 = .ok (.if_icmp .ne 36, 3) := by decide +kernel
theorem dX7_forward_11 : decode cX7_forward 11 = .ok (.aload_n 0, 1) := by decide +kernel
theorem dX7_forward_12 : decode cX7_forward 12 = .ok (.getfield 49, 3) := by decide +kernel
theorem dX7_forward_15 : decode cX7_forward 15 = .ok (.aload_n 0, 1) := by decide +kernel
theorem dX7_forward_16 : decode cX7_forward 16 = .ok (.getfield 98, 3) := by decide +kernel
theorem dX7_forward_19 : decode cX7_forward 19 = .ok (.iaload, 1) := by decide +kernel
theorem dX7_forward_20 : decode cX7_forward 20 = .ok (.ifCond .le 16, 3) := by decide +kernel
theorem dX7_forward_23 : decode cX7_forward 23 = .ok (.aload_n 0, 1) := by decide +kernel
theorem dX7_forward_24 : decode cX7_forward 24 = .ok (.dup, 1) := by decide +kernel
theorem dX7_forward_25 : decode cX7_forward 25 = .ok (.getfield 98, 3) := by decide +kernel
theorem dX7_forward_28 : decode cX7_forward 28 = .ok (.iconst 1, 1) := by decide +kernel
theorem dX7_forward_29 : decode cX7_forward 29 = .ok (.isub, 1) := by decide +kernel
theorem dX7_forward_30 : decode cX7_forward 30 = .ok (.putfield 98, 3) := by decide +kernel
theorem dX7_forward_33 : decode cX7_forward 33 = .ok (.goto 54, 3) := by decide +kernel
theorem dX7_forward_36 : decode cX7_forward 36 = .ok (.aload_n 0, 1) := by decide +kernel
theorem dX7_forward_37 : decode cX7_forward 37 = .ok (.iload_n 1, 1) := by decide +kernel
theorem dX7_forward_38 : decode cX7_forward 38 = .ok (.invokevirtual 131, 3) := by decide +kernel
theorem dX7_forward_41 : decode cX7_forward 41 = .ok (.goto 46, 3) := by decide +kernel
theorem dX7_forward_44 : decode cX7_forward 44 = .ok (.aload_n 0, 1) := by decide +kernel
theorem dX7_forward_45 : decode cX7_forward 45 = .ok (.getfield 13, 3) := by decide +kernel
theorem dX7_forward_48 : decode cX7_forward 48 = .ok (.iload_n 1, 1) := by decide +kernel
theorem dX7_forward_49 : decode cX7_forward 49 = .ok (.iaload, 1) := by decide +kernel
theorem dX7_forward_50 : decode cX7_forward 50 = .ok (.bipush 19, 2) := by decide +kernel
theorem dX7_forward_52 : decode cX7_forward 52 = .ok (.if_icmp .ne 11, 3) := by decide +kernel
theorem dX7_forward_55 : decode cX7_forward 55 = .ok (.aload_n 0, 1) := by decide +kernel
theorem dX7_forward_56 : decode cX7_forward 56 = .ok (.iload_n 1, 1) := by decide +kernel
theorem dX7_forward_57 : decode cX7_forward 57 = .ok (.invokevirtual 134, 3) := by decide +kernel
theorem dX7_forward_60 : decode cX7_forward 60 = .ok (.goto 27, 3) := by decide +kernel
theorem dX7_forward_63 : decode cX7_forward 63 = .ok (.aload_n 0, 1) := by decide +kernel
theorem dX7_forward_64 : decode cX7_forward 64 = .ok (.getfield 13, 3) := by decide +kernel
theorem dX7_forward_67 : decode cX7_forward 67 = .ok (.iload_n 1, 1) := by decide +kernel
theorem dX7_forward_68 : decode cX7_forward 68 = .ok (.iaload, 1) := by decide +kernel
theorem dX7_forward_69 : decode cX7_forward 69 = .ok (.bipush 20, 2) := by decide +kernel
theorem dX7_forward_71 : decode cX7_forward 71 = .ok (.if_icmp .ne 11, 3) := by decide +kernel
theorem dX7_forward_74 : decode cX7_forward 74 = .ok (.aload_n 0, 1) := by decide +kernel
theorem dX7_forward_75 : decode cX7_forward 75 = .ok (.iload_n 1, 1) := by decide +kernel
theorem dX7_forward_76 : decode cX7_forward 76 = .ok (.invokevirtual 137, 3) := by decide +kernel
theorem dX7_forward_79 : decode cX7_forward 79 = .ok (.goto 8, 3) := by decide +kernel
theorem dX7_forward_82 : decode cX7_forward 82 = .ok (.aload_n 0, 1) := by decide +kernel
theorem dX7_forward_83 : decode cX7_forward 83 = .ok (.iload_n 1, 1) := by decide +kernel
theorem dX7_forward_84 : decode cX7_forward 84 = .ok (.invokevirtual 140, 3) := by decide +kernel
theorem dX7_forward_87 : decode cX7_forward 87 = .ok (.return_, 1) := by decide +kernel
theorem dX7_part0_0 : decode cX7_part0 0 = .ok (.aload_n 0, 1) := by decide +kernel
theorem dX7_part0_1 : decode cX7_part0 1 = .ok (.getfield 49, 3) := by decide +kernel
theorem dX7_part0_4 : decode cX7_part0 4 = .ok (.aload_n 0, 1) := by decide +kernel
theorem dX7_part0_5 : decode cX7_part0 5 = .ok (.getfield 98, 3) := by decide +kernel
theorem dX7_part0_8 : decode cX7_part0 8 = .ok (.iconst 1, 1) := by decide +kernel
theorem dX7_part0_9 : decode cX7_part0 9 = .ok (.iastore, 1) := by decide +kernel
theorem dX7_part0_10 : decode cX7_part0 10 = .ok (.aload_n 0, 1) := by decide +kernel
theorem dX7_part0_11 : decode cX7_part0 11 = .ok (.iload_n 1, 1) := by decide +kernel
theorem dX7_part0_12 : decode cX7_part0 12 = .ok (.iconst 0, 1) := by decide +kernel
theorem dX7_part0_13 : decode cX7_part0 13 = .ok (.invokevirtual 127, 3) := by decide +kernel
theorem dX7_part0_16 : decode cX7_part0 16 = .ok (.return_, 1) := by decide +kernel
theorem dX7_choose_0 : decode cX7_choose 0 = .ok (.aload_n 0, 1) := by decide +kernel
theorem dX7_choose_1 : decode cX7_choose 1 = .ok (.getfield 49, 3) := by decide +kernel
theorem dX7_choose_4 : decode cX7_choose 4 = .ok (.aload_n 0, 1) := by decide +kernel
theorem dX7_choose_5 : decode cX7_choose 5 = .ok (.getfield 98, 3) := by decide +kernel
theorem dX7_choose_8 : decode cX7_choose 8 = .ok (.iaload, 1) := by decide +kernel
theorem dX7_choose_9 : decode cX7_choose 9 = .ok (.ifCond .ne 11, 3) := by decide +kernel
theorem dX7_choose_12 : decode cX7_choose 12 = .ok (.aload_n 0, 1) := by decide +kernel
theorem dX7_choose_13 : decode cX7_choose 13 = .ok (.iload_n 1, 1) := by decide +kernel
theorem dX7_choose_14 : decode cX7_choose 14 = .ok (.invokevirtual 131, 3) := by decide +kernel
theorem dX7_choose_17 : decode cX7_choose 17 = .ok (.goto 76, 3) := by decide +kernel
theorem dX7_choose_20 : decode cX7_choose 20 = .ok (.aload_n 0, 1) := by decide +kernel
theorem dX7_choose_21 : decode cX7_choose 21 = .ok (.getfield 49, 3) := by decide +kernel
theorem dX7_choose_24 : decode cX7_choose 24 = .ok (.aload_n 0, 1) := by decide +kernel
theorem dX7_choose_25 : decode cX7_choose 25 = .ok (.getfield 98, 3) := by decide +kernel
theorem dX7_choose_28 : decode cX7_choose 28 = .ok (.iaload, 1) := by decide +kernel
theorem dX7_choose_29 : decode cX7_choose 29 = .ok (.iconst 2, 1) := by decide +kernel
theorem dX7_choose_30 : decode cX7_choose 30 = .ok (.if_icmp .ne 16, 3) := by decide +kernel
theorem dX7_choose_33 : decode cX7_choose 33 = .ok (.aload_n 0, 1) := by decide +kernel
theorem dX7_choose_34 : decode cX7_choose 34 = .ok (.dup, 1) := by decide +kernel
theorem dX7_choose_35 : decode cX7_choose 35 = .ok (.getfield 98, 3) := by decide +kernel
theorem dX7_choose_38 : decode cX7_choose 38 = .ok (.iconst 1, 1) := by decide +kernel
theorem dX7_choose_39 : decode cX7_choose 39 = .ok (.isub, 1) := by decide +kernel
theorem dX7_choose_40 : decode cX7_choose 40 = .ok (.putfield 98, 3) := by decide +kernel
theorem dX7_choose_43 : decode cX7_choose 43 = .ok (.goto 50, 3) := by decide +kernel
theorem dX7_choose_46 : decode cX7_choose 46 = .ok (.aload_n 0, 1) := by decide +kernel
theorem dX7_choose_47 : decode cX7_choose 47 = .ok (.iload_n 1, 1) := by decide +kernel
theorem dX7_choose_48 : decode cX7_choose 48 = .ok (.aload_n 0, 1) := by decide +kernel
theorem dX7_choose_49 : decode cX7_choose 49 = .ok (.getfield 114, 3) := by decide +kernel
theorem dX7_choose_52 : decode cX7_choose 52 = .ok (.iconst 1, 1) := by decide +kernel
theorem dX7_choose_53 : decode cX7_choose 53 = .ok (.invokevirtual 143, 3) := by decide +kernel
theorem dX7_choose_56 : decode cX7_choose 56 = .ok (.ifCond .eq 37, 3) := by decide +kernel
theorem dX7_choose_59 : decode cX7_choose 59 = .ok (.aload_n 0, 1) := by decide +kernel
theorem dX7_choose_60 : decode cX7_choose 60 = .ok (.getfield 49, 3) := by decide +kernel
theorem dX7_choose_63 : decode cX7_choose 63 = .ok (.aload_n 0, 1) := by decide +kernel
theorem dX7_choose_64 : decode cX7_choose 64 = .ok (.getfield 98, 3) := by decide +kernel
theorem dX7_choose_67 : decode cX7_choose 67 = .ok (.iconst 2, 1) := by decide +kernel
theorem dX7_choose_68 : decode cX7_choose 68 = .ok (.iastore, 1) := by decide +kernel
theorem dX7_choose_69 : decode cX7_choose 69 = .ok (.aload_n 0, 1) := by decide +kernel
theorem dX7_choose_70 : decode cX7_choose 70 = .ok (.iload_n 1, 1) := by decide +kernel
theorem dX7_choose_71 : decode cX7_choose 71 = .ok (.aload_n 0, 1) := by decide +kernel
theorem dX7_choose_72 : decode cX7_choose 72 = .ok (.getfield 33, 3) := by decide +kernel
theorem dX7_choose_75 : decode cX7_choose 75 = .ok (.aload_n 0, 1) := by decide +kernel
theorem dX7_choose_76 : decode cX7_choose 76 = .ok (.getfield 114, 3) := by decide +kernel
theorem dX7_choose_79 : decode cX7_choose 79 = .ok (.laload, 1) := by decide +kernel
theorem dX7_choose_80 : decode cX7_choose 80 = .ok (.lconst 0, 1) := by decide +kernel
theorem dX7_choose_81 : decode cX7_choose 81 = .ok (.lcmp, 1) := by decide +kernel
theorem dX7_choose_82 : decode cX7_choose 82 = .ok (.ifCond .eq 7, 3) := by decide +kernel
theorem dX7_choose_85 : decode cX7_choose 85 = .ok (.iconst 1, 1) := by decide +kernel
theorem dX7_choose_86 : decode cX7_choose 86 = .ok (.goto 4, 3) := by decide +kernel
theorem dX7_choose_89 : decode cX7_choose 89 = .ok (.iconst 2, 1) := by decide +kernel
theorem dX7_choose_90 : decode cX7_choose 90 = .ok (.invokevirtual 127, 3) := by decide +kernel
theorem dX7_choose_93 : decode cX7_choose 93 = .ok (.return_, 1) := by decide +kernel
theorem dX7_again_0 : decode cX7_again 0 = .ok (.aload_n 0, 1) := by decide +kernel
theorem dX7_again_1 : decode cX7_again 1 = .ok (.getfield 49, 3) := by decide +kernel
theorem dX7_again_4 : decode cX7_again 4 = .ok (.aload_n 0, 1) := by decide +kernel
theorem dX7_again_5 : decode cX7_again 5 = .ok (.getfield 98, 3) := by decide +kernel
theorem dX7_again_8 : decode cX7_again 8 = .ok (.iaload, 1) := by decide +kernel
theorem dX7_again_9 : decode cX7_again 9 = .ok (.ifCond .ne 9, 3) := by decide +kernel
theorem dX7_again_12 : decode cX7_again 12 = .ok (.aload_n 0, 1) := by decide +kernel
theorem dX7_again_13 : decode cX7_again 13 = .ok (.iload_n 1, 1) := by decide +kernel
theorem dX7_again_14 : decode cX7_again 14 = .ok (.invokevirtual 131, 3) := by decide +kernel
theorem dX7_again_17 : decode cX7_again 17 = .ok (.return_, 1) := by decide +kernel
theorem dX7_again_18 : decode cX7_again 18 = .ok (.aload_n 0, 1) := by decide +kernel
theorem dX7_again_19 : decode cX7_again 19 = .ok (.getfield 49, 3) := by decide +kernel
theorem dX7_again_22 : decode cX7_again 22 = .ok (.aload_n 0, 1) := by decide +kernel
theorem dX7_again_23 : decode cX7_again 23 = .ok (.getfield 98, 3) := by decide +kernel
theorem dX7_again_26 : decode cX7_again 26 = .ok (.iaload, 1) := by decide +kernel
theorem dX7_again_27 : decode cX7_again 27 = .ok (.iconst 1, 1) := by decide +kernel
theorem dX7_again_28 : decode cX7_again 28 = .ok (.if_icmp .ne 53, 3) := by decide +kernel
theorem dX7_again_31 : decode cX7_again 31 = .ok (.aload_n 0, 1) := by decide +kernel
theorem dX7_again_32 : decode cX7_again 32 = .ok (.iload_n 1, 1) := by decide +kernel
theorem dX7_again_33 : decode cX7_again 33 = .ok (.aload_n 0, 1) := by decide +kernel
theorem dX7_again_34 : decode cX7_again 34 = .ok (.getfield 114, 3) := by decide +kernel
theorem dX7_again_37 : decode cX7_again 37 = .ok (.iconst 1, 1) := by decide +kernel
theorem dX7_again_38 : decode cX7_again 38 = .ok (.invokevirtual 143, 3) := by decide +kernel
theorem dX7_again_41 : decode cX7_again 41 = .ok (.ifCond .ne 4, 3) := by decide +kernel
theorem dX7_again_44 : decode cX7_again 44 = .ok (.return_, 1) := by decide +kernel
theorem dX7_again_45 : decode cX7_again 45 = .ok (.aload_n 0, 1) := by decide +kernel
theorem dX7_again_46 : decode cX7_again 46 = .ok (.getfield 55, 3) := by decide +kernel
theorem dX7_again_49 : decode cX7_again 49 = .ok (.aload_n 0, 1) := by decide +kernel
theorem dX7_again_50 : decode cX7_again 50 = .ok (.getfield 98, 3) := by decide +kernel
theorem dX7_again_53 : decode cX7_again 53 = .ok (.aload_n 0, 1) := by decide +kernel
theorem dX7_again_54 : decode cX7_again 54 = .ok (.getfield 33, 3) := by decide +kernel
theorem dX7_again_57 : decode cX7_again 57 = .ok (.aload_n 0, 1) := by decide +kernel
theorem dX7_again_58 : decode cX7_again 58 = .ok (.getfield 114, 3) := by decide +kernel
theorem dX7_again_61 : decode cX7_again 61 = .ok (.laload, 1) := by decide +kernel
theorem dX7_again_62 : decode cX7_again 62 = .ok (.lastore, 1) := by decide +kernel
theorem dX7_again_63 : decode cX7_again 63 = .ok (.aload_n 0, 1) := by decide +kernel
theorem dX7_again_64 : decode cX7_again 64 = .ok (.iconst (-1), 1) := by decide +kernel
theorem dX7_again_65 : decode cX7_again 65 = .ok (.putfield 114, 3) := by decide +kernel
theorem dX7_again_68 : decode cX7_again 68 = .ok (.aload_n 0, 1) := by decide +kernel
theorem dX7_again_69 : decode cX7_again 69 = .ok (.getfield 49, 3) := by decide +kernel
theorem dX7_again_72 : decode cX7_again 72 = .ok (.aload_n 0, 1) := by decide +kernel
theorem dX7_again_73 : decode cX7_again 73 = .ok (.getfield 98, 3) := by decide +kernel
theorem dX7_again_76 : decode cX7_again 76 = .ok (.iconst 2, 1) := by decide +kernel
theorem dX7_again_77 : decode cX7_again 77 = .ok (.iastore, 1) := by decide +kernel
theorem dX7_again_78 : decode cX7_again 78 = .ok (.goto 16, 3) := by decide +kernel
theorem dX7_again_81 : decode cX7_again 81 = .ok (.aload_n 0, 1) := by decide +kernel
theorem dX7_again_82 : decode cX7_again 82 = .ok (.getfield 55, 3) := by decide +kernel
theorem dX7_again_85 : decode cX7_again 85 = .ok (.aload_n 0, 1) := by decide +kernel
theorem dX7_again_86 : decode cX7_again 86 = .ok (.getfield 98, 3) := by decide +kernel
theorem dX7_again_89 : decode cX7_again 89 = .ok (.dup2, 1) := by decide +kernel
theorem dX7_again_90 : decode cX7_again 90 = .ok (.laload, 1) := by decide +kernel
theorem dX7_again_91 : decode cX7_again 91 = .ok (.lconst 1, 1) := by decide +kernel
theorem dX7_again_92 : decode cX7_again 92 = .ok (.lsub, 1) := by decide +kernel
theorem dX7_again_93 : decode cX7_again 93 = .ok (.lastore, 1) := by decide +kernel
theorem dX7_again_94 : decode cX7_again 94 = .ok (.aload_n 0, 1) := by decide +kernel
theorem dX7_again_95 : decode cX7_again 95 = .ok (.getfield 55, 3) := by decide +kernel
theorem dX7_again_98 : decode cX7_again 98 = .ok (.aload_n 0, 1) := by decide +kernel
theorem dX7_again_99 : decode cX7_again 99 = .ok (.getfield 98, 3) := by decide +kernel
theorem dX7_again_102 : decode cX7_again 102 = .ok (.laload, 1) := by decide +kernel
theorem dX7_again_103 : decode cX7_again 103 = .ok (.lconst 0, 1) := by decide +kernel
theorem dX7_again_104 : decode cX7_again 104 = .ok (.lcmp, 1) := by decide +kernel
theorem dX7_again_105 : decode cX7_again 105 = .ok (.ifCond .le 12, 3) := by decide +kernel
theorem dX7_again_108 : decode cX7_again 108 = .ok (.aload_n 0, 1) := by decide +kernel
theorem dX7_again_109 : decode cX7_again 109 = .ok (.iload_n 1, 1) := by decide +kernel
theorem dX7_again_110 : decode cX7_again 110 = .ok (.iconst 1, 1) := by decide +kernel
theorem dX7_again_111 : decode cX7_again 111 = .ok (.invokevirtual 127, 3) := by decide +kernel
theorem dX7_again_114 : decode cX7_again 114 = .ok (.goto 13, 3) := by decide +kernel
theorem dX7_again_117 : decode cX7_again 117 = .ok (.aload_n 0, 1) := by decide +kernel
theorem dX7_again_118 : decode cX7_again 118 = .ok (.dup, 1) := by decide +kernel
theorem dX7_again_119 : decode cX7_again 119 = .ok (.getfield 98, 3) := by decide +kernel
theorem dX7_again_122 : decode cX7_again 122 = .ok (.iconst 1, 1) := by decide +kernel
theorem dX7_again_123 : decode cX7_again 123 = .ok (.isub, 1) := by decide +kernel
theorem dX7_again_124 : decode cX7_again 124 = .ok (.putfield 98, 3) := by decide +kernel
theorem dX7_again_127 : decode cX7_again 127 = .ok (.return_, 1) := by decide +kernel
theorem dX7_eager_0 : decode cX7_eager 0 = .ok (.aload_n 0, 1) := by decide +kernel
theorem dX7_eager_1 : decode cX7_eager 1 = .ok (.getfield 49, 3) := by decide +kernel
theorem dX7_eager_4 : decode cX7_eager 4 = .ok (.aload_n 0, 1) := by decide +kernel
theorem dX7_eager_5 : decode cX7_eager 5 = .ok (.getfield 98, 3) := by decide +kernel
theorem dX7_eager_8 : decode cX7_eager 8 = .ok (.iaload, 1) := by decide +kernel
theorem dX7_eager_9 : decode cX7_eager 9 = .ok (.istore_n 2, 1) := by decide +kernel
theorem dX7_eager_10 : decode cX7_eager 10 = .ok (.iconst 3, 1) := by decide +kernel
theorem dX7_eager_11 : decode cX7_eager 11 = .ok (.aload_n 0, 1) := by decide +kernel
theorem dX7_eager_12 : decode cX7_eager 12 = .ok (.getfield 98, 3) := by decide +kernel
theorem dX7_eager_15 : decode cX7_eager 15 = .ok (.imul, 1) := by decide +kernel
theorem dX7_eager_16 : decode cX7_eager 16 = .ok (.iconst 3, 1) := by decide +kernel
theorem dX7_eager_17 : decode cX7_eager 17 = .ok (.isub, 1) := by decide +kernel
theorem dX7_eager_18 : decode cX7_eager 18 = .ok (.istore_n 3, 1) := by decide +kernel
theorem dX7_eager_19 : decode cX7_eager 19 = .ok (.iload_n 2, 1) := by decide +kernel
theorem dX7_eager_20 : decode cX7_eager 20 = .ok (.ifCond .le 17, 3) := by decide +kernel
theorem dX7_eager_23 : decode cX7_eager 23 = .ok (.aload_n 0, 1) := by decide +kernel
theorem dX7_eager_24 : decode cX7_eager 24 = .ok (.getfield 52, 3) := by decide +kernel
theorem dX7_eager_27 : decode cX7_eager 27 = .ok (.iload_n 3, 1) := by decide +kernel
theorem dX7_eager_28 : decode cX7_eager 28 = .ok (.iload_n 2, 1) := by decide +kernel
theorem dX7_eager_29 : decode cX7_eager 29 = .ok (.iadd, 1) := by decide +kernel
theorem dX7_eager_30 : decode cX7_eager 30 = .ok (.iconst 1, 1) := by decide +kernel
theorem dX7_eager_31 : decode cX7_eager 31 = .ok (.isub, 1) := by decide +kernel
theorem dX7_eager_32 : decode cX7_eager 32 = .ok (.aload_n 0, 1) := by decide +kernel
theorem dX7_eager_33 : decode cX7_eager 33 = .ok (.getfield 114, 3) := by decide +kernel
theorem dX7_eager_36 : decode cX7_eager 36 = .ok (.iastore, 1) := by decide +kernel
theorem dX7_eager_37 : decode cX7_eager 37 = .ok (.iload_n 2, 1) := by decide +kernel
theorem dX7_eager_38 : decode cX7_eager 38 = .ok (.iconst 3, 1) := by decide +kernel
theorem dX7_eager_39 : decode cX7_eager 39 = .ok (.if_icmp .ge 18, 3) := by decide +kernel
theorem dX7_eager_42 : decode cX7_eager 42 = .ok (.aload_n 0, 1) := by decide +kernel
theorem dX7_eager_43 : decode cX7_eager 43 = .ok (.iload_n 1, 1) := by decide +kernel
theorem dX7_eager_44 : decode cX7_eager 44 = .ok (.iload_n 2, 1) := by decide +kernel
theorem dX7_eager_45 : decode cX7_eager 45 = .ok (.invokevirtual 67, 3) := by decide +kernel
theorem dX7_eager_48 : decode cX7_eager 48 = .ok (.ifCond .ne 9, 3) := by decide +kernel
theorem dX7_eager_51 : decode cX7_eager 51 = .ok (.iinc 2 1, 3) := by decide +kernel
theorem dX7_eager_54 : decode cX7_eager 54 = .ok (.goto (-17), 3) := by decide +kernel
theorem dX7_eager_57 : decode cX7_eager 57 = .ok (.iload_n 2, 1) := by decide +kernel
theorem dX7_eager_58 : decode cX7_eager 58 = .ok (.iconst 3, 1) := by decide +kernel
theorem dX7_eager_59 : decode cX7_eager 59 = .ok (.if_icmp .ge 22, 3) := by decide +kernel
theorem dX7_eager_62 : decode cX7_eager 62 = .ok (.aload_n 0, 1) := by decide +kernel
theorem dX7_eager_63 : decode cX7_eager 63 = .ok (.getfield 49, 3) := by decide +kernel
theorem dX7_eager_66 : decode cX7_eager 66 = .ok (.aload_n 0, 1) := by decide +kernel
theorem dX7_eager_67 : decode cX7_eager 67 = .ok (.getfield 98, 3) := by decide +kernel
theorem dX7_eager_70 : decode cX7_eager 70 = .ok (.iload_n 2, 1) := by decide +kernel
theorem dX7_eager_71 : decode cX7_eager 71 = .ok (.iconst 1, 1) := by decide +kernel
theorem dX7_eager_72 : decode cX7_eager 72 = .ok (.iadd, 1) := by decide +kernel
theorem dX7_eager_73 : decode cX7_eager 73 = .ok (.iastore, 1) := by decide +kernel
theorem dX7_eager_74 : decode cX7_eager 74 = .ok (.aload_n 0, 1) := by decide +kernel
theorem dX7_eager_75 : decode cX7_eager 75 = .ok (.iload_n 1, 1) := by decide +kernel
theorem dX7_eager_76 : decode cX7_eager 76 = .ok (.iload_n 2, 1) := by decide +kernel
theorem dX7_eager_77 : decode cX7_eager 77 = .ok (.invokevirtual 127, 3) := by decide +kernel
theorem dX7_eager_80 : decode cX7_eager 80 = .ok (.return_, 1) := by decide +kernel
theorem dX7_eager_81 : decode cX7_eager 81 = .ok (.aload_n 0, 1) := by decide +kernel
theorem dX7_eager_82 : decode cX7_eager 82 = .ok (.iload_n 1, 1) := by decide +kernel
theorem dX7_eager_83 : decode cX7_eager 83 = .ok (.aload_n 0, 1) := by decide +kernel
theorem dX7_eager_84 : decode cX7_eager 84 = .ok (.getfield 52, 3) := by decide +kernel
end
section
theorem dX7_eager_87 : decode cX7_eager 87 = .ok (.iload_n 3, 1) := by decide +kernel
theorem dX7_eager_88 : decode cX7_eager 88 = .ok (.iaload, 1) := by decide +kernel
theorem dX7_eager_89 : decode cX7_eager 89 = .ok (.aload_n 0, 1) := by decide +kernel
theorem dX7_eager_90 : decode cX7_eager 90 = .ok (.getfield 52, 3) := by decide +kernel
theorem dX7_eager_93 : decode cX7_eager 93 = .ok (.iload_n 3, 1) := by decide +kernel
theorem dX7_eager_94 : decode cX7_eager 94 = .ok (.iconst 1, 1) := by decide +kernel
theorem dX7_eager_95 : decode cX7_eager 95 = .ok (.iadd, 1) := by decide +kernel
theorem dX7_eager_96 : decode cX7_eager 96 = .ok (.iaload, 1) := by decide +kernel
theorem dX7_eager_97 : decode cX7_eager 97 = .ok (.aload_n 0, 1) := by decide +kernel
theorem dX7_eager_98 : decode cX7_eager 98 = .ok (.getfield 52, 3) := by decide +kernel
theorem dX7_eager_101 : decode cX7_eager 101 = .ok (.iload_n 3, 1) := by decide +kernel
theorem dX7_eager_102 : decode cX7_eager 102 = .ok (.iconst 2, 1) := by decide +kernel
theorem dX7_eager_103 : decode cX7_eager 103 = .ok (.iadd, 1) := by decide +kernel
theorem dX7_eager_104 : decode cX7_eager 104 = .ok (.iaload, 1) := by decide +kernel
theorem dX7_eager_105 : decode cX7_eager 105 = .ok (.invokevirtual 147, 3) := by decide +kernel
theorem dX7_eager_108 : decode cX7_eager 108 = .ok (.istore 4, 2) := by decide +kernel
theorem dX7_eager_110 : decode cX7_eager 110 = .ok (.aload_n 0, 1) := by decide +kernel
theorem dX7_eager_111 : decode cX7_eager 111 = .ok (.getfield 82, 3) := by decide +kernel
theorem dX7_eager_114 : decode cX7_eager 114 = .ok (.ifCond .eq 4, 3) := by decide +kernel
theorem dX7_eager_117 : decode cX7_eager 117 = .ok (.return_, 1) := by decide +kernel
theorem dX7_eager_118 : decode cX7_eager 118 = .ok (.aload_n 0, 1) := by decide +kernel
theorem dX7_eager_119 : decode cX7_eager 119 = .ok (.iload 4, 2) := by decide +kernel
theorem dX7_eager_121 : decode cX7_eager 121 = .ok (.putfield 114, 3) := by decide +kernel
theorem dX7_eager_124 : decode cX7_eager 124 = .ok (.aload_n 0, 1) := by decide +kernel
theorem dX7_eager_125 : decode cX7_eager 125 = .ok (.dup, 1) := by decide +kernel
theorem dX7_eager_126 : decode cX7_eager 126 = .ok (.getfield 98, 3) := by decide +kernel
theorem dX7_eager_129 : decode cX7_eager 129 = .ok (.iconst 1, 1) := by decide +kernel
theorem dX7_eager_130 : decode cX7_eager 130 = .ok (.isub, 1) := by decide +kernel
theorem dX7_eager_131 : decode cX7_eager 131 = .ok (.putfield 98, 3) := by decide +kernel
theorem dX7_eager_134 : decode cX7_eager 134 = .ok (.return_, 1) := by decide +kernel
theorem dX7_act_0 : decode cX7_act 0 = .ok (.aload_n 0, 1) := by decide +kernel
theorem dX7_act_1 : decode cX7_act 1 = .ok (.getfield 13, 3) := by decide +kernel
theorem dX7_act_4 : decode cX7_act 4 = .ok (.iload_n 1, 1) := by decide +kernel
theorem dX7_act_5 : decode cX7_act 5 = .ok (.iaload, 1) := by decide +kernel
theorem dX7_act_6 : decode cX7_act 6 = .ok (.bipush 10, 2) := by decide +kernel
theorem dX7_act_8 : decode cX7_act 8 = .ok (.if_icmp .ge 13, 3) := by decide +kernel
theorem dX7_act_11 : decode cX7_act 11 = .ok (.aload_n 0, 1) := by decide +kernel
theorem dX7_act_12 : decode cX7_act 12 = .ok (.iload_n 1, 1) := by decide +kernel
theorem dX7_act_13 : decode cX7_act 13 = .ok (.iload_n 2, 1) := by decide +kernel
theorem dX7_act_14 : decode cX7_act 14 = .ok (.iload_n 3, 1) := by decide +kernel
theorem dX7_act_15 : decode cX7_act 15 = .ok (.iload 4, 2) := by decide +kernel
theorem dX7_act_17 : decode cX7_act 17 = .ok (.invokevirtual 151, 3) := by decide +kernel
theorem dX7_act_20 : decode cX7_act 20 = .ok (.ireturn, 1) := by decide +kernel
theorem dX7_act_21 : decode cX7_act 21 = .ok (.aload_n 0, 1) := by decide +kernel
theorem dX7_act_22 : decode cX7_act 22 = .ok (.getfield 13, 3) := by decide +kernel
theorem dX7_act_25 : decode cX7_act 25 = .ok (.iload_n 1, 1) := by decide +kernel
theorem dX7_act_26 : decode cX7_act 26 = .ok (.iaload, 1) := by decide +kernel
theorem dX7_act_27 : decode cX7_act 27 = .ok (.bipush 10, 2) := by decide +kernel
theorem dX7_act_29 : decode cX7_act 29 = .ok (.if_icmp .ne 14, 3) := by decide +kernel
theorem dX7_act_32 : decode cX7_act 32 = .ok (.aload_n 0, 1) := by decide +kernel
theorem dX7_act_33 : decode cX7_act 33 = .ok (.iload_n 1, 1) := by decide +kernel
theorem dX7_act_34 : decode cX7_act 34 = .ok (.iload_n 2, 1) := by decide +kernel
theorem dX7_act_35 : decode cX7_act 35 = .ok (.iload 4, 2) := by decide +kernel
theorem dX7_act_37 : decode cX7_act 37 = .ok (.invokevirtual 154, 3) := by decide +kernel
theorem dX7_act_40 : decode cX7_act 40 = .ok (.goto 12, 3) := by decide +kernel
theorem dX7_act_43 : decode cX7_act 43 = .ok (.aload_n 0, 1) := by decide +kernel
theorem dX7_act_44 : decode cX7_act 44 = .ok (.iload_n 1, 1) := by decide +kernel
theorem dX7_act_45 : decode cX7_act 45 = .ok (.iload_n 2, 1) := by decide +kernel
theorem dX7_act_46 : decode cX7_act 46 = .ok (.iload_n 3, 1) := by decide +kernel
theorem dX7_act_47 : decode cX7_act 47 = .ok (.iload 4, 2) := by decide +kernel
theorem dX7_act_49 : decode cX7_act 49 = .ok (.invokevirtual 158, 3) := by decide +kernel
theorem dX7_act_52 : decode cX7_act 52 = .ok (.ireturn, 1) := by decide +kernel
theorem dX7_noSlot_0 : decode cX7_noSlot 0 = .ok (.iload_n 2, 1) := by decide +kernel
theorem dX7_noSlot_1 : decode cX7_noSlot 1 = .ok (.ifCond .lt 12, 3) := by decide +kernel
theorem dX7_noSlot_4 : decode cX7_noSlot 4 = .ok (.iload_n 2, 1) := by decide +kernel
theorem dX7_noSlot_5 : decode cX7_noSlot 5 = .ok (.sipush 256, 3) := by decide +kernel
theorem dX7_noSlot_8 : decode cX7_noSlot 8 = .ok (.if_icmp .ge 5, 3) := by decide +kernel
theorem dX7_noSlot_11 : decode cX7_noSlot 11 = .ok (.iconst 0, 1) := by decide +kernel
theorem dX7_noSlot_12 : decode cX7_noSlot 12 = .ok (.ireturn, 1) := by decide +kernel
theorem dX7_noSlot_13 : decode cX7_noSlot 13 = .ok (.aload_n 0, 1) := by decide +kernel
theorem dX7_noSlot_14 : decode cX7_noSlot 14 = .ok (.iconst 2, 1) := by decide +kernel
theorem dX7_noSlot_15 : decode cX7_noSlot 15 = .ok (.iload_n 1, 1) := by decide +kernel
theorem dX7_noSlot_16 : decode cX7_noSlot 16 = .ok (.invokevirtual 88, 3) := by decide +kernel
theorem dX7_noSlot_19 : decode cX7_noSlot 19 = .ok (.pop, 1) := by decide +kernel
theorem dX7_noSlot_20 : decode cX7_noSlot 20 = .ok (.iconst 1, 1) := by decide +kernel
theorem dX7_noSlot_21 : decode cX7_noSlot 21 = .ok (.ireturn, 1) := by decide +kernel
theorem dX7_simple_0 : decode cX7_simple 0 = .ok (.aload_n 0, 1) := by decide +kernel
theorem dX7_simple_1 : decode cX7_simple 1 = .ok (.getfield 13, 3) := by decide +kernel
theorem dX7_simple_4 : decode cX7_simple 4 = .ok (.iload_n 1, 1) := by decide +kernel
theorem dX7_simple_5 : decode cX7_simple 5 = .ok (.iaload, 1) := by decide +kernel
theorem dX7_simple_6 : decode cX7_simple 6 = .ok (.tableswitch 249 0 8 #[50, 61, 91, 121, 130, 139, 148, 185, 228], 50) := by decide +kernel
theorem dX7_simple_56 : decode cX7_simple 56 = .ok (.aload_n 0, 1) := by decide +kernel
theorem dX7_simple_57 : decode cX7_simple 57 = .ok (.aload_n 0, 1) := by decide +kernel
theorem dX7_simple_58 : decode cX7_simple 58 = .ok (.getfield 19, 3) := by decide +kernel
theorem dX7_simple_61 : decode cX7_simple 61 = .ok (.iload_n 1, 1) := by decide +kernel
theorem dX7_simple_62 : decode cX7_simple 62 = .ok (.laload, 1) := by decide +kernel
theorem dX7_simple_63 : decode cX7_simple 63 = .ok (.invokevirtual 123, 3) := by decide +kernel
theorem dX7_simple_66 : decode cX7_simple 66 = .ok (.ireturn, 1) := by decide +kernel
theorem dX7_simple_67 : decode cX7_simple 67 = .ok (.aload_n 0, 1) := by decide +kernel
theorem dX7_simple_68 : decode cX7_simple 68 = .ok (.iload_n 1, 1) := by decide +kernel
theorem dX7_simple_69 : decode cX7_simple 69 = .ok (.aload_n 0, 1) := by decide +kernel
theorem dX7_simple_70 : decode cX7_simple 70 = .ok (.iload_n 1, 1) := by decide +kernel
theorem dX7_simple_71 : decode cX7_simple 71 = .ok (.iconst 0, 1) := by decide +kernel
theorem dX7_simple_72 : decode cX7_simple 72 = .ok (.invokevirtual 101, 3) := by decide +kernel
theorem dX7_simple_75 : decode cX7_simple 75 = .ok (.invokevirtual 161, 3) := by decide +kernel
theorem dX7_simple_78 : decode cX7_simple 78 = .ok (.ifCond .eq 7, 3) := by decide +kernel
theorem dX7_simple_81 : decode cX7_simple 81 = .ok (.iconst (-1), 1) := by decide +kernel
theorem dX7_simple_82 : decode cX7_simple 82 = .ok (.goto 14, 3) := by decide +kernel
theorem dX7_simple_85 : decode cX7_simple 85 = .ok (.aload_n 0, 1) := by decide +kernel
theorem dX7_simple_86 : decode cX7_simple 86 = .ok (.getfield 39, 3) := by decide +kernel
theorem dX7_simple_89 : decode cX7_simple 89 = .ok (.aload_n 0, 1) := by decide +kernel
theorem dX7_simple_90 : decode cX7_simple 90 = .ok (.iload_n 1, 1) := by decide +kernel
theorem dX7_simple_91 : decode cX7_simple 91 = .ok (.iconst 0, 1) := by decide +kernel
theorem dX7_simple_92 : decode cX7_simple 92 = .ok (.invokevirtual 101, 3) := by decide +kernel
theorem dX7_simple_95 : decode cX7_simple 95 = .ok (.iaload, 1) := by decide +kernel
theorem dX7_simple_96 : decode cX7_simple 96 = .ok (.ireturn, 1) := by decide +kernel
theorem dX7_simple_97 : decode cX7_simple 97 = .ok (.aload_n 0, 1) := by decide +kernel
theorem dX7_simple_98 : decode cX7_simple 98 = .ok (.iload_n 1, 1) := by decide +kernel
theorem dX7_simple_99 : decode cX7_simple 99 = .ok (.aload_n 0, 1) := by decide +kernel
theorem dX7_simple_100 : decode cX7_simple 100 = .ok (.iload_n 1, 1) := by decide +kernel
theorem dX7_simple_101 : decode cX7_simple 101 = .ok (.iconst 0, 1) := by decide +kernel
theorem dX7_simple_102 : decode cX7_simple 102 = .ok (.invokevirtual 101, 3) := by decide +kernel
theorem dX7_simple_105 : decode cX7_simple 105 = .ok (.invokevirtual 161, 3) := by decide +kernel
theorem dX7_simple_108 : decode cX7_simple 108 = .ok (.ifCond .eq 5, 3) := by decide +kernel
theorem dX7_simple_111 : decode cX7_simple 111 = .ok (.iconst (-1), 1) := by decide +kernel
theorem dX7_simple_112 : decode cX7_simple 112 = .ok (.ireturn, 1) := by decide +kernel
theorem dX7_simple_113 : decode cX7_simple 113 = .ok (.aload_n 0, 1) := by decide +kernel
theorem dX7_simple_114 : decode cX7_simple 114 = .ok (.getfield 39, 3) := by decide +kernel
theorem dX7_simple_117 : decode cX7_simple 117 = .ok (.aload_n 0, 1) := by decide +kernel
theorem dX7_simple_118 : decode cX7_simple 118 = .ok (.iload_n 1, 1) := by decide +kernel
theorem dX7_simple_119 : decode cX7_simple 119 = .ok (.iconst 0, 1) := by decide +kernel
theorem dX7_simple_120 : decode cX7_simple 120 = .ok (.invokevirtual 101, 3) := by decide +kernel
theorem dX7_simple_123 : decode cX7_simple 123 = .ok (.iload_n 3, 1) := by decide +kernel
theorem dX7_simple_124 : decode cX7_simple 124 = .ok (.iastore, 1) := by decide +kernel
theorem dX7_simple_125 : decode cX7_simple 125 = .ok (.iload_n 3, 1) := by decide +kernel
theorem dX7_simple_126 : decode cX7_simple 126 = .ok (.ireturn, 1) := by decide +kernel
theorem dX7_simple_127 : decode cX7_simple 127 = .ok (.aload_n 0, 1) := by decide +kernel
theorem dX7_simple_128 : decode cX7_simple 128 = .ok (.iconst 2, 1) := by decide +kernel
theorem dX7_simple_129 : decode cX7_simple 129 = .ok (.lconst 0, 1) := by decide +kernel
theorem dX7_simple_130 : decode cX7_simple 130 = .ok (.iload_n 2, 1) := by decide +kernel
theorem dX7_simple_131 : decode cX7_simple 131 = .ok (.iload_n 3, 1) := by decide +kernel
theorem dX7_simple_132 : decode cX7_simple 132 = .ok (.invokevirtual 78, 3) := by decide +kernel
theorem dX7_simple_135 : decode cX7_simple 135 = .ok (.ireturn, 1) := by decide +kernel
theorem dX7_simple_136 : decode cX7_simple 136 = .ok (.aload_n 0, 1) := by decide +kernel
theorem dX7_simple_137 : decode cX7_simple 137 = .ok (.iconst 3, 1) := by decide +kernel
theorem dX7_simple_138 : decode cX7_simple 138 = .ok (.lconst 0, 1) := by decide +kernel
theorem dX7_simple_139 : decode cX7_simple 139 = .ok (.iload_n 2, 1) := by decide +kernel
theorem dX7_simple_140 : decode cX7_simple 140 = .ok (.iload_n 3, 1) := by decide +kernel
theorem dX7_simple_141 : decode cX7_simple 141 = .ok (.invokevirtual 78, 3) := by decide +kernel
theorem dX7_simple_144 : decode cX7_simple 144 = .ok (.ireturn, 1) := by decide +kernel
theorem dX7_simple_145 : decode cX7_simple 145 = .ok (.aload_n 0, 1) := by decide +kernel
theorem dX7_simple_146 : decode cX7_simple 146 = .ok (.iconst 4, 1) := by decide +kernel
theorem dX7_simple_147 : decode cX7_simple 147 = .ok (.lconst 0, 1) := by decide +kernel
theorem dX7_simple_148 : decode cX7_simple 148 = .ok (.iload_n 2, 1) := by decide +kernel
theorem dX7_simple_149 : decode cX7_simple 149 = .ok (.iconst (-1), 1) := by decide +kernel
theorem dX7_simple_150 : decode cX7_simple 150 = .ok (.invokevirtual 78, 3) := by decide +kernel
theorem dX7_simple_153 : decode cX7_simple 153 = .ok (.ireturn, 1) := by decide +kernel
theorem dX7_simple_154 : decode cX7_simple 154 = .ok (.aload_n 0, 1) := by decide +kernel
theorem dX7_simple_155 : decode cX7_simple 155 = .ok (.iload_n 1, 1) := by decide +kernel
theorem dX7_simple_156 : decode cX7_simple 156 = .ok (.iload_n 2, 1) := by decide +kernel
theorem dX7_simple_157 : decode cX7_simple 157 = .ok (.iconst 2, 1) := by decide +kernel
theorem dX7_simple_158 : decode cX7_simple 158 = .ok (.invokevirtual 143, 3) := by decide +kernel
theorem dX7_simple_161 : decode cX7_simple 161 = .ok (.ifCond .ne 5, 3) := by decide +kernel
theorem dX7_simple_164 : decode cX7_simple 164 = .ok (.iconst (-1), 1) := by decide +kernel
theorem dX7_simple_165 : decode cX7_simple 165 = .ok (.ireturn, 1) := by decide +kernel
theorem dX7_simple_166 : decode cX7_simple 166 = .ok (.aload_n 0, 1) := by decide +kernel
theorem dX7_simple_167 : decode cX7_simple 167 = .ok (.iload_n 1, 1) := by decide +kernel
theorem dX7_simple_168 : decode cX7_simple 168 = .ok (.iconst 1, 1) := by decide +kernel
theorem dX7_simple_169 : decode cX7_simple 169 = .ok (.invokevirtual 101, 3) := by decide +kernel
theorem dX7_simple_172 : decode cX7_simple 172 = .ok (.ifCond .ne 12, 3) := by decide +kernel
theorem dX7_simple_175 : decode cX7_simple 175 = .ok (.aload_n 0, 1) := by decide +kernel
theorem dX7_simple_176 : decode cX7_simple 176 = .ok (.getfield 27, 3) := by decide +kernel
theorem dX7_simple_179 : decode cX7_simple 179 = .ok (.iload_n 2, 1) := by decide +kernel
theorem dX7_simple_180 : decode cX7_simple 180 = .ok (.iaload, 1) := by decide +kernel
theorem dX7_simple_181 : decode cX7_simple 181 = .ok (.goto 9, 3) := by decide +kernel
theorem dX7_simple_184 : decode cX7_simple 184 = .ok (.aload_n 0, 1) := by decide +kernel
theorem dX7_simple_185 : decode cX7_simple 185 = .ok (.getfield 30, 3) := by decide +kernel
theorem dX7_simple_188 : decode cX7_simple 188 = .ok (.iload_n 2, 1) := by decide +kernel
theorem dX7_simple_189 : decode cX7_simple 189 = .ok (.iaload, 1) := by decide +kernel
theorem dX7_simple_190 : decode cX7_simple 190 = .ok (.ireturn, 1) := by decide +kernel
theorem dX7_simple_191 : decode cX7_simple 191 = .ok (.aload_n 0, 1) := by decide +kernel
theorem dX7_simple_192 : decode cX7_simple 192 = .ok (.iload_n 1, 1) := by decide +kernel
theorem dX7_simple_193 : decode cX7_simple 193 = .ok (.iload_n 2, 1) := by decide +kernel
theorem dX7_simple_194 : decode cX7_simple 194 = .ok (.iconst 2, 1) := by decide +kernel
theorem dX7_simple_195 : decode cX7_simple 195 = .ok (.invokevirtual 143, 3) := by decide +kernel
theorem dX7_simple_198 : decode cX7_simple 198 = .ok (.ifCond .ne 5, 3) := by decide +kernel
theorem dX7_simple_201 : decode cX7_simple 201 = .ok (.iconst (-1), 1) := by decide +kernel
theorem dX7_simple_202 : decode cX7_simple 202 = .ok (.ireturn, 1) := by decide +kernel
theorem dX7_simple_203 : decode cX7_simple 203 = .ok (.aload_n 0, 1) := by decide +kernel
theorem dX7_simple_204 : decode cX7_simple 204 = .ok (.iload_n 1, 1) := by decide +kernel
theorem dX7_simple_205 : decode cX7_simple 205 = .ok (.iconst 1, 1) := by decide +kernel
theorem dX7_simple_206 : decode cX7_simple 206 = .ok (.invokevirtual 101, 3) := by decide +kernel
theorem dX7_simple_209 : decode cX7_simple 209 = .ok (.ifCond .ne 14, 3) := by decide +kernel
theorem dX7_simple_212 : decode cX7_simple 212 = .ok (.aload_n 0, 1) := by decide +kernel
theorem dX7_simple_213 : decode cX7_simple 213 = .ok (.getfield 27, 3) := by decide +kernel
theorem dX7_simple_216 : decode cX7_simple 216 = .ok (.iload_n 2, 1) := by decide +kernel
theorem dX7_simple_217 : decode cX7_simple 217 = .ok (.iload 4, 2) := by decide +kernel
theorem dX7_simple_219 : decode cX7_simple 219 = .ok (.iastore, 1) := by decide +kernel
theorem dX7_simple_220 : decode cX7_simple 220 = .ok (.goto 11, 3) := by decide +kernel
theorem dX7_simple_223 : decode cX7_simple 223 = .ok (.aload_n 0, 1) := by decide +kernel
theorem dX7_simple_224 : decode cX7_simple 224 = .ok (.getfield 30, 3) := by decide +kernel
theorem dX7_simple_227 : decode cX7_simple 227 = .ok (.iload_n 2, 1) := by decide +kernel
theorem dX7_simple_228 : decode cX7_simple 228 = .ok (.iload 4, 2) := by decide +kernel
theorem dX7_simple_230 : decode cX7_simple 230 = .ok (.iastore, 1) := by decide +kernel
theorem dX7_simple_231 : decode cX7_simple 231 = .ok (.iload 4, 2) := by decide +kernel
theorem dX7_simple_233 : decode cX7_simple 233 = .ok (.ireturn, 1) := by decide +kernel
theorem dX7_simple_234 : decode cX7_simple 234 = .ok (.aload_n 0, 1) := by decide +kernel
theorem dX7_simple_235 : decode cX7_simple 235 = .ok (.iload_n 1, 1) := by decide +kernel
theorem dX7_simple_236 : decode cX7_simple 236 = .ok (.iload_n 2, 1) := by decide +kernel
theorem dX7_simple_237 : decode cX7_simple 237 = .ok (.iconst 3, 1) := by decide +kernel
theorem dX7_simple_238 : decode cX7_simple 238 = .ok (.invokevirtual 143, 3) := by decide +kernel
theorem dX7_simple_241 : decode cX7_simple 241 = .ok (.ifCond .eq 12, 3) := by decide +kernel
theorem dX7_simple_244 : decode cX7_simple 244 = .ok (.aload_n 0, 1) := by decide +kernel
theorem dX7_simple_245 : decode cX7_simple 245 = .ok (.getfield 27, 3) := by decide +kernel
theorem dX7_simple_248 : decode cX7_simple 248 = .ok (.iload_n 2, 1) := by decide +kernel
theorem dX7_simple_249 : decode cX7_simple 249 = .ok (.iaload, 1) := by decide +kernel
theorem dX7_simple_250 : decode cX7_simple 250 = .ok (.goto 4, 3) := by decide +kernel
theorem dX7_simple_253 : decode cX7_simple 253 = .ok (.iconst (-1), 1) := by decide +kernel
theorem dX7_simple_254 : decode cX7_simple 254 = .ok (.ireturn, 1) := by decide +kernel
theorem dX7_simple_255 : decode cX7_simple 255 = .ok (.aload_n 0, 1) := by decide +kernel
theorem dX7_simple_256 : decode cX7_simple 256 = .ok (.iload_n 1, 1) := by decide +kernel
theorem dX7_simple_257 : decode cX7_simple 257 = .ok (.iload_n 2, 1) := by decide +kernel
theorem dX7_simple_258 : decode cX7_simple 258 = .ok (.iconst 3, 1) := by decide +kernel
theorem dX7_simple_259 : decode cX7_simple 259 = .ok (.invokevirtual 143, 3) := by decide +kernel
theorem dX7_simple_262 : decode cX7_simple 262 = .ok (.ifCond .eq 12, 3) := by decide +kernel
theorem dX7_simple_265 : decode cX7_simple 265 = .ok (.aload_n 0, 1) := by decide +kernel
theorem dX7_simple_266 : decode cX7_simple 266 = .ok (.getfield 30, 3) := by decide +kernel
theorem dX7_simple_269 : decode cX7_simple 269 = .ok (.iload_n 2, 1) := by decide +kernel
theorem dX7_simple_270 : decode cX7_simple 270 = .ok (.iaload, 1) := by decide +kernel
theorem dX7_simple_271 : decode cX7_simple 271 = .ok (.goto 4, 3) := by decide +kernel
theorem dX7_simple_274 : decode cX7_simple 274 = .ok (.iconst (-1), 1) := by decide +kernel
theorem dX7_simple_275 : decode cX7_simple 275 = .ok (.ireturn, 1) := by decide +kernel
theorem dX7_send_0 : decode cX7_send 0 = .ok (.aload_n 0, 1) := by decide +kernel
theorem dX7_send_1 : decode cX7_send 1 = .ok (.iload_n 1, 1) := by decide +kernel
theorem dX7_send_2 : decode cX7_send 2 = .ok (.iload_n 2, 1) := by decide +kernel
theorem dX7_send_3 : decode cX7_send 3 = .ok (.iconst 4, 1) := by decide +kernel
theorem dX7_send_4 : decode cX7_send 4 = .ok (.invokevirtual 143, 3) := by decide +kernel
theorem dX7_send_7 : decode cX7_send 7 = .ok (.ifCond .ne 5, 3) := by decide +kernel
theorem dX7_send_10 : decode cX7_send 10 = .ok (.iconst (-1), 1) := by decide +kernel
theorem dX7_send_11 : decode cX7_send 11 = .ok (.ireturn, 1) := by decide +kernel
theorem dX7_send_12 : decode cX7_send 12 = .ok (.aload_n 0, 1) := by decide +kernel
theorem dX7_send_13 : decode cX7_send 13 = .ok (.iload_n 1, 1) := by decide +kernel
theorem dX7_send_14 : decode cX7_send 14 = .ok (.iconst 1, 1) := by decide +kernel
theorem dX7_send_15 : decode cX7_send 15 = .ok (.invokevirtual 101, 3) := by decide +kernel
theorem dX7_send_18 : decode cX7_send 18 = .ok (.istore 4, 2) := by decide +kernel
theorem dX7_send_20 : decode cX7_send 20 = .ok (.aload_n 0, 1) := by decide +kernel
theorem dX7_send_21 : decode cX7_send 21 = .ok (.getfield 27, 3) := by decide +kernel
theorem dX7_send_24 : decode cX7_send 24 = .ok (.iload_n 2, 1) := by decide +kernel
theorem dX7_send_25 : decode cX7_send 25 = .ok (.iaload, 1) := by decide +kernel
theorem dX7_send_26 : decode cX7_send 26 = .ok (.istore 5, 2) := by decide +kernel
theorem dX7_send_28 : decode cX7_send 28 = .ok (.iload 4, 2) := by decide +kernel
theorem dX7_send_30 : decode cX7_send 30 = .ok (.ifCond .ne 6, 3) := by decide +kernel
theorem dX7_send_33 : decode cX7_send 33 = .ok (.iload 5, 2) := by decide +kernel
theorem dX7_send_35 : decode cX7_send 35 = .ok (.ireturn, 1) := by decide +kernel
theorem dX7_send_36 : decode cX7_send 36 = .ok (.iload 4, 2) := by decide +kernel
theorem dX7_send_38 : decode cX7_send 38 = .ok (.iconst 1, 1) := by decide +kernel
theorem dX7_send_39 : decode cX7_send 39 = .ok (.if_icmp .ne 13, 3) := by decide +kernel
theorem dX7_send_42 : decode cX7_send 42 = .ok (.aload_n 0, 1) := by decide +kernel
theorem dX7_send_43 : decode cX7_send 43 = .ok (.getfield 27, 3) := by decide +kernel
theorem dX7_send_46 : decode cX7_send 46 = .ok (.iload_n 2, 1) := by decide +kernel
theorem dX7_send_47 : decode cX7_send 47 = .ok (.iload_n 3, 1) := by decide +kernel
theorem dX7_send_48 : decode cX7_send 48 = .ok (.iastore, 1) := by decide +kernel
theorem dX7_send_49 : decode cX7_send 49 = .ok (.iload 5, 2) := by decide +kernel
theorem dX7_send_51 : decode cX7_send 51 = .ok (.ireturn, 1) := by decide +kernel
theorem dX7_send_52 : decode cX7_send 52 = .ok (.iload 4, 2) := by decide +kernel
theorem dX7_send_54 : decode cX7_send 54 = .ok (.bipush 7, 2) := by decide +kernel
theorem dX7_send_56 : decode cX7_send 56 = .ok (.if_icmp .ne 19, 3) := by decide +kernel
theorem dX7_send_59 : decode cX7_send 59 = .ok (.aload_n 0, 1) := by decide +kernel
theorem dX7_send_60 : decode cX7_send 60 = .ok (.iload 5, 2) := by decide +kernel
theorem dX7_send_62 : decode cX7_send 62 = .ok (.iload_n 3, 1) := by decide +kernel
theorem dX7_send_63 : decode cX7_send 63 = .ok (.if_icmp .ne 7, 3) := by decide +kernel
theorem dX7_send_66 : decode cX7_send 66 = .ok (.lconst 1, 1) := by decide +kernel
theorem dX7_send_67 : decode cX7_send 67 = .ok (.goto 4, 3) := by decide +kernel
theorem dX7_send_70 : decode cX7_send 70 = .ok (.lconst 0, 1) := by decide +kernel
theorem dX7_send_71 : decode cX7_send 71 = .ok (.invokevirtual 123, 3) := by decide +kernel
theorem dX7_send_74 : decode cX7_send 74 = .ok (.ireturn, 1) := by decide +kernel
theorem dX7_send_75 : decode cX7_send 75 = .ok (.iload 4, 2) := by decide +kernel
theorem dX7_send_77 : decode cX7_send 77 = .ok (.iconst 2, 1) := by decide +kernel
theorem dX7_send_78 : decode cX7_send 78 = .ok (.if_icmp .lt 10, 3) := by decide +kernel
theorem dX7_send_81 : decode cX7_send 81 = .ok (.iload 4, 2) := by decide +kernel
theorem dX7_send_83 : decode cX7_send 83 = .ok (.bipush 7, 2) := by decide +kernel
theorem dX7_send_85 : decode cX7_send 85 = .ok (.if_icmp .le 9, 3) := by decide +kernel
theorem dX7_send_88 : decode cX7_send 88 = .ok (.aload_n 0, 1) := by decide +kernel
theorem dX7_send_89 : decode cX7_send 89 = .ok (.lconst 0, 1) := by decide +kernel
theorem dX7_send_90 : decode cX7_send 90 = .ok (.invokevirtual 123, 3) := by decide +kernel
theorem dX7_send_93 : decode cX7_send 93 = .ok (.ireturn, 1) := by decide +kernel
theorem dX7_send_94 : decode cX7_send 94 = .ok (.aload_n 0, 1) := by decide +kernel
theorem dX7_send_95 : decode cX7_send 95 = .ok (.iload_n 1, 1) := by decide +kernel
theorem dX7_send_96 : decode cX7_send 96 = .ok (.iload 5, 2) := by decide +kernel
theorem dX7_send_98 : decode cX7_send 98 = .ok (.iconst 1, 1) := by decide +kernel
theorem dX7_send_99 : decode cX7_send 99 = .ok (.invokevirtual 143, 3) := by decide +kernel
theorem dX7_send_102 : decode cX7_send 102 = .ok (.ifCond .eq 13, 3) := by decide +kernel
theorem dX7_send_105 : decode cX7_send 105 = .ok (.aload_n 0, 1) := by decide +kernel
theorem dX7_send_106 : decode cX7_send 106 = .ok (.iload_n 1, 1) := by decide +kernel
theorem dX7_send_107 : decode cX7_send 107 = .ok (.iload_n 3, 1) := by decide +kernel
theorem dX7_send_108 : decode cX7_send 108 = .ok (.iconst 1, 1) := by decide +kernel
theorem dX7_send_109 : decode cX7_send 109 = .ok (.invokevirtual 143, 3) := by decide +kernel
theorem dX7_send_112 : decode cX7_send 112 = .ok (.ifCond .ne 5, 3) := by decide +kernel
theorem dX7_send_115 : decode cX7_send 115 = .ok (.iconst (-1), 1) := by decide +kernel
theorem dX7_send_116 : decode cX7_send 116 = .ok (.ireturn, 1) := by decide +kernel
theorem dX7_send_117 : decode cX7_send 117 = .ok (.aload_n 0, 1) := by decide +kernel
theorem dX7_send_118 : decode cX7_send 118 = .ok (.iload_n 1, 1) := by decide +kernel
theorem dX7_send_119 : decode cX7_send 119 = .ok (.iload 4, 2) := by decide +kernel
theorem dX7_send_121 : decode cX7_send 121 = .ok (.aload_n 0, 1) := by decide +kernel
theorem dX7_send_122 : decode cX7_send 122 = .ok (.getfield 33, 3) := by decide +kernel
theorem dX7_send_125 : decode cX7_send 125 = .ok (.iload 5, 2) := by decide +kernel
theorem dX7_send_127 : decode cX7_send 127 = .ok (.laload, 1) := by decide +kernel
theorem dX7_send_128 : decode cX7_send 128 = .ok (.aload_n 0, 1) := by decide +kernel
theorem dX7_send_129 : decode cX7_send 129 = .ok (.getfield 33, 3) := by decide +kernel
theorem dX7_send_132 : decode cX7_send 132 = .ok (.iload_n 3, 1) := by decide +kernel
theorem dX7_send_133 : decode cX7_send 133 = .ok (.laload, 1) := by decide +kernel
theorem dX7_send_134 : decode cX7_send 134 = .ok (.invokevirtual 164, 3) := by decide +kernel
theorem dX7_send_137 : decode cX7_send 137 = .ok (.ireturn, 1) := by decide +kernel
theorem dX7_reckon_0 : decode cX7_reckon 0 = .ok (.iload_n 2, 1) := by decide +kernel
theorem dX7_reckon_1 : decode cX7_reckon 1 = .ok (.iconst 2, 1) := by decide +kernel
theorem dX7_reckon_2 : decode cX7_reckon 2 = .ok (.if_icmp .ne 12, 3) := by decide +kernel
theorem dX7_reckon_5 : decode cX7_reckon 5 = .ok (.aload_n 0, 1) := by decide +kernel
theorem dX7_reckon_6 : decode cX7_reckon 6 = .ok (.lload_n 3, 1) := by decide +kernel
theorem dX7_reckon_7 : decode cX7_reckon 7 = .ok (.lload 5, 2) := by decide +kernel
theorem dX7_reckon_9 : decode cX7_reckon 9 = .ok (.ladd, 1) := by decide +kernel
theorem dX7_reckon_10 : decode cX7_reckon 10 = .ok (.invokevirtual 123, 3) := by decide +kernel
theorem dX7_reckon_13 : decode cX7_reckon 13 = .ok (.ireturn, 1) := by decide +kernel
theorem dX7_reckon_14 : decode cX7_reckon 14 = .ok (.iload_n 2, 1) := by decide +kernel
theorem dX7_reckon_15 : decode cX7_reckon 15 = .ok (.iconst 3, 1) := by decide +kernel
theorem dX7_reckon_16 : decode cX7_reckon 16 = .ok (.if_icmp .ne 12, 3) := by decide +kernel
theorem dX7_reckon_19 : decode cX7_reckon 19 = .ok (.aload_n 0, 1) := by decide +kernel
theorem dX7_reckon_20 : decode cX7_reckon 20 = .ok (.lload_n 3, 1) := by decide +kernel
theorem dX7_reckon_21 : decode cX7_reckon 21 = .ok (.lload 5, 2) := by decide +kernel
theorem dX7_reckon_23 : decode cX7_reckon 23 = .ok (.lsub, 1) := by decide +kernel
theorem dX7_reckon_24 : decode cX7_reckon 24 = .ok (.invokevirtual 123, 3) := by decide +kernel
theorem dX7_reckon_27 : decode cX7_reckon 27 = .ok (.ireturn, 1) := by decide +kernel
theorem dX7_reckon_28 : decode cX7_reckon 28 = .ok (.iload_n 2, 1) := by decide +kernel
theorem dX7_reckon_29 : decode cX7_reckon 29 = .ok (.iconst 4, 1) := by decide +kernel
theorem dX7_reckon_30 : decode cX7_reckon 30 = .ok (.if_icmp .ne 12, 3) := by decide +kernel
theorem dX7_reckon_33 : decode cX7_reckon 33 = .ok (.aload_n 0, 1) := by decide +kernel
theorem dX7_reckon_34 : decode cX7_reckon 34 = .ok (.lload_n 3, 1) := by decide +kernel
theorem dX7_reckon_35 : decode cX7_reckon 35 = .ok (.lload 5, 2) := by decide +kernel
theorem dX7_reckon_37 : decode cX7_reckon 37 = .ok (.lmul, 1) := by decide +kernel
theorem dX7_reckon_38 : decode cX7_reckon 38 = .ok (.invokevirtual 123, 3) := by decide +kernel
theorem dX7_reckon_41 : decode cX7_reckon 41 = .ok (.ireturn, 1) := by decide +kernel
theorem dX7_reckon_42 : decode cX7_reckon 42 = .ok (.lload 5, 2) := by decide +kernel
theorem dX7_reckon_44 : decode cX7_reckon 44 = .ok (.lconst 0, 1) := by decide +kernel
theorem dX7_reckon_45 : decode cX7_reckon 45 = .ok (.lcmp, 1) := by decide +kernel
theorem dX7_reckon_46 : decode cX7_reckon 46 = .ok (.ifCond .ne 11, 3) := by decide +kernel
theorem dX7_reckon_49 : decode cX7_reckon 49 = .ok (.aload_n 0, 1) := by decide +kernel
theorem dX7_reckon_50 : decode cX7_reckon 50 = .ok (.bipush 6, 2) := by decide +kernel
theorem dX7_reckon_52 : decode cX7_reckon 52 = .ok (.iload_n 1, 1) := by decide +kernel
theorem dX7_reckon_53 : decode cX7_reckon 53 = .ok (.invokevirtual 88, 3) := by decide +kernel
theorem dX7_reckon_56 : decode cX7_reckon 56 = .ok (.ireturn, 1) := by decide +kernel
theorem dX7_reckon_57 : decode cX7_reckon 57 = .ok (.lload 5, 2) := by decide +kernel
theorem dX7_reckon_59 : decode cX7_reckon 59 = .ok (.ldc2_w 168, 3) := by decide +kernel
theorem dX7_reckon_62 : decode cX7_reckon 62 = .ok (.lcmp, 1) := by decide +kernel
theorem dX7_reckon_63 : decode cX7_reckon 63 = .ok (.ifCond .ne 19, 3) := by decide +kernel
theorem dX7_reckon_66 : decode cX7_reckon 66 = .ok (.aload_n 0, 1) := by decide +kernel
theorem dX7_reckon_67 : decode cX7_reckon 67 = .ok (.iload_n 2, 1) := by decide +kernel
theorem dX7_reckon_68 : decode cX7_reckon 68 = .ok (.iconst 5, 1) := by decide +kernel
theorem dX7_reckon_69 : decode cX7_reckon 69 = .ok (.if_icmp .ne 8, 3) := by decide +kernel
theorem dX7_reckon_72 : decode cX7_reckon 72 = .ok (.lload_n 3, 1) := by decide +kernel
theorem dX7_reckon_73 : decode cX7_reckon 73 = .ok (.lneg, 1) := by decide +kernel
theorem dX7_reckon_74 : decode cX7_reckon 74 = .ok (.goto 4, 3) := by decide +kernel
theorem dX7_reckon_77 : decode cX7_reckon 77 = .ok (.lconst 0, 1) := by decide +kernel
theorem dX7_reckon_78 : decode cX7_reckon 78 = .ok (.invokevirtual 123, 3) := by decide +kernel
theorem dX7_reckon_81 : decode cX7_reckon 81 = .ok (.ireturn, 1) := by decide +kernel
theorem dX7_reckon_82 : decode cX7_reckon 82 = .ok (.aload_n 0, 1) := by decide +kernel
theorem dX7_reckon_83 : decode cX7_reckon 83 = .ok (.iload_n 2, 1) := by decide +kernel
theorem dX7_reckon_84 : decode cX7_reckon 84 = .ok (.iconst 5, 1) := by decide +kernel
theorem dX7_reckon_85 : decode cX7_reckon 85 = .ok (.if_icmp .ne 10, 3) := by decide +kernel
theorem dX7_reckon_88 : decode cX7_reckon 88 = .ok (.lload_n 3, 1) := by decide +kernel
theorem dX7_reckon_89 : decode cX7_reckon 89 = .ok (.lload 5, 2) := by decide +kernel
theorem dX7_reckon_91 : decode cX7_reckon 91 = .ok (.ldiv, 1) := by decide +kernel
theorem dX7_reckon_92 : decode cX7_reckon 92 = .ok (.goto 7, 3) := by decide +kernel
theorem dX7_reckon_95 : decode cX7_reckon 95 = .ok (.lload_n 3, 1) := by decide +kernel
theorem dX7_reckon_96 : decode cX7_reckon 96 = .ok (.lload 5, 2) := by decide +kernel
theorem dX7_reckon_98 : decode cX7_reckon 98 = .ok (.lrem, 1) := by decide +kernel
theorem dX7_reckon_99 : decode cX7_reckon 99 = .ok (.invokevirtual 123, 3) := by decide +kernel
theorem dX7_reckon_102 : decode cX7_reckon 102 = .ok (.ireturn, 1) := by decide +kernel
theorem dX7_larger_0 : decode cX7_larger 0 = .ok (.aload_n 0, 1) := by decide +kernel
theorem dX7_larger_1 : decode cX7_larger 1 = .ok (.getfield 13, 3) := by decide +kernel
theorem dX7_larger_4 : decode cX7_larger 4 = .ok (.iload_n 1, 1) := by decide +kernel
theorem dX7_larger_5 : decode cX7_larger 5 = .ok (.iaload, 1) := by decide +kernel
theorem dX7_larger_6 : decode cX7_larger 6 = .ok (.tableswitch 207 11 17 #[42, 69, 69, 109, 207, 152, 172], 42) := by decide +kernel
theorem dX7_larger_48 : decode cX7_larger 48 = .ok (.aload_n 0, 1) := by decide +kernel
theorem dX7_larger_49 : decode cX7_larger 49 = .ok (.iload_n 1, 1) := by decide +kernel
theorem dX7_larger_50 : decode cX7_larger 50 = .ok (.iload_n 3, 1) := by decide +kernel
theorem dX7_larger_51 : decode cX7_larger 51 = .ok (.iconst 1, 1) := by decide +kernel
theorem dX7_larger_52 : decode cX7_larger 52 = .ok (.invokevirtual 143, 3) := by decide +kernel
theorem dX7_larger_55 : decode cX7_larger 55 = .ok (.ifCond .eq 18, 3) := by decide +kernel
theorem dX7_larger_58 : decode cX7_larger 58 = .ok (.aload_n 0, 1) := by decide +kernel
theorem dX7_larger_59 : decode cX7_larger 59 = .ok (.iload_n 1, 1) := by decide +kernel
theorem dX7_larger_60 : decode cX7_larger 60 = .ok (.aload_n 0, 1) := by decide +kernel
theorem dX7_larger_61 : decode cX7_larger 61 = .ok (.getfield 33, 3) := by decide +kernel
theorem dX7_larger_64 : decode cX7_larger 64 = .ok (.iload_n 3, 1) := by decide +kernel
theorem dX7_larger_65 : decode cX7_larger 65 = .ok (.laload, 1) := by decide +kernel
theorem dX7_larger_66 : decode cX7_larger 66 = .ok (.l2i, 1) := by decide +kernel
theorem dX7_larger_67 : decode cX7_larger 67 = .ok (.invokevirtual 170, 3) := by decide +kernel
theorem dX7_larger_70 : decode cX7_larger 70 = .ok (.goto 4, 3) := by decide +kernel
theorem dX7_larger_73 : decode cX7_larger 73 = .ok (.iconst (-1), 1) := by decide +kernel
theorem dX7_larger_74 : decode cX7_larger 74 = .ok (.ireturn, 1) := by decide +kernel
theorem dX7_larger_75 : decode cX7_larger 75 = .ok (.aload_n 0, 1) := by decide +kernel
theorem dX7_larger_76 : decode cX7_larger 76 = .ok (.iload_n 1, 1) := by decide +kernel
theorem dX7_larger_77 : decode cX7_larger 77 = .ok (.iload_n 2, 1) := by decide +kernel
theorem dX7_larger_78 : decode cX7_larger 78 = .ok (.iconst 5, 1) := by decide +kernel
theorem dX7_larger_79 : decode cX7_larger 79 = .ok (.invokevirtual 143, 3) := by decide +kernel
theorem dX7_larger_82 : decode cX7_larger 82 = .ok (.ifCond .eq 31, 3) := by decide +kernel
theorem dX7_larger_85 : decode cX7_larger 85 = .ok (.aload_n 0, 1) := by decide +kernel
theorem dX7_larger_86 : decode cX7_larger 86 = .ok (.iload_n 1, 1) := by decide +kernel
theorem dX7_larger_87 : decode cX7_larger 87 = .ok (.iload_n 3, 1) := by decide +kernel
theorem dX7_larger_88 : decode cX7_larger 88 = .ok (.iconst 1, 1) := by decide +kernel
theorem dX7_larger_89 : decode cX7_larger 89 = .ok (.invokevirtual 143, 3) := by decide +kernel
theorem dX7_larger_92 : decode cX7_larger 92 = .ok (.ifCond .eq 21, 3) := by decide +kernel
theorem dX7_larger_95 : decode cX7_larger 95 = .ok (.aload_n 0, 1) := by decide +kernel
theorem dX7_larger_96 : decode cX7_larger 96 = .ok (.iload_n 1, 1) := by decide +kernel
theorem dX7_larger_97 : decode cX7_larger 97 = .ok (.iload_n 2, 1) := by decide +kernel
theorem dX7_larger_98 : decode cX7_larger 98 = .ok (.aload_n 0, 1) := by decide +kernel
theorem dX7_larger_99 : decode cX7_larger 99 = .ok (.getfield 33, 3) := by decide +kernel
theorem dX7_larger_102 : decode cX7_larger 102 = .ok (.iload_n 3, 1) := by decide +kernel
theorem dX7_larger_103 : decode cX7_larger 103 = .ok (.laload, 1) := by decide +kernel
theorem dX7_larger_104 : decode cX7_larger 104 = .ok (.l2i, 1) := by decide +kernel
theorem dX7_larger_105 : decode cX7_larger 105 = .ok (.iload 4, 2) := by decide +kernel
theorem dX7_larger_107 : decode cX7_larger 107 = .ok (.invokevirtual 173, 3) := by decide +kernel
theorem dX7_larger_110 : decode cX7_larger 110 = .ok (.goto 4, 3) := by decide +kernel
theorem dX7_larger_113 : decode cX7_larger 113 = .ok (.iconst (-1), 1) := by decide +kernel
theorem dX7_larger_114 : decode cX7_larger 114 = .ok (.ireturn, 1) := by decide +kernel
theorem dX7_larger_115 : decode cX7_larger 115 = .ok (.aload_n 0, 1) := by decide +kernel
theorem dX7_larger_116 : decode cX7_larger 116 = .ok (.iload_n 1, 1) := by decide +kernel
theorem dX7_larger_117 : decode cX7_larger 117 = .ok (.iload_n 2, 1) := by decide +kernel
theorem dX7_larger_118 : decode cX7_larger 118 = .ok (.iconst 5, 1) := by decide +kernel
theorem dX7_larger_119 : decode cX7_larger 119 = .ok (.invokevirtual 143, 3) := by decide +kernel
theorem dX7_larger_122 : decode cX7_larger 122 = .ok (.ifCond .ne 5, 3) := by decide +kernel
theorem dX7_larger_125 : decode cX7_larger 125 = .ok (.iconst (-1), 1) := by decide +kernel
theorem dX7_larger_126 : decode cX7_larger 126 = .ok (.ireturn, 1) := by decide +kernel
theorem dX7_larger_127 : decode cX7_larger 127 = .ok (.aload_n 0, 1) := by decide +kernel
theorem dX7_larger_128 : decode cX7_larger 128 = .ok (.getfield 27, 3) := by decide +kernel
theorem dX7_larger_131 : decode cX7_larger 131 = .ok (.iload_n 2, 1) := by decide +kernel
theorem dX7_larger_132 : decode cX7_larger 132 = .ok (.iaload, 1) := by decide +kernel
theorem dX7_larger_133 : decode cX7_larger 133 = .ok (.iconst (-1), 1) := by decide +kernel
theorem dX7_larger_134 : decode cX7_larger 134 = .ok (.if_icmp .ne 12, 3) := by decide +kernel
theorem dX7_larger_137 : decode cX7_larger 137 = .ok (.aload_n 0, 1) := by decide +kernel
theorem dX7_larger_138 : decode cX7_larger 138 = .ok (.iconst 1, 1) := by decide +kernel
theorem dX7_larger_139 : decode cX7_larger 139 = .ok (.iload_n 1, 1) := by decide +kernel
theorem dX7_larger_140 : decode cX7_larger 140 = .ok (.invokevirtual 88, 3) := by decide +kernel
theorem dX7_larger_143 : decode cX7_larger 143 = .ok (.goto 14, 3) := by decide +kernel
theorem dX7_larger_146 : decode cX7_larger 146 = .ok (.aload_n 0, 1) := by decide +kernel
theorem dX7_larger_147 : decode cX7_larger 147 = .ok (.aload_n 0, 1) := by decide +kernel
theorem dX7_larger_148 : decode cX7_larger 148 = .ok (.getfield 27, 3) := by decide +kernel
theorem dX7_larger_151 : decode cX7_larger 151 = .ok (.iload_n 2, 1) := by decide +kernel
theorem dX7_larger_152 : decode cX7_larger 152 = .ok (.iaload, 1) := by decide +kernel
theorem dX7_larger_153 : decode cX7_larger 153 = .ok (.i2l, 1) := by decide +kernel
theorem dX7_larger_154 : decode cX7_larger 154 = .ok (.invokevirtual 123, 3) := by decide +kernel
theorem dX7_larger_157 : decode cX7_larger 157 = .ok (.ireturn, 1) := by decide +kernel
theorem dX7_larger_158 : decode cX7_larger 158 = .ok (.aload_n 0, 1) := by decide +kernel
theorem dX7_larger_159 : decode cX7_larger 159 = .ok (.aload_n 0, 1) := by decide +kernel
theorem dX7_larger_160 : decode cX7_larger 160 = .ok (.getfield 42, 3) := by decide +kernel
theorem dX7_larger_163 : decode cX7_larger 163 = .ok (.iconst (-1), 1) := by decide +kernel
theorem dX7_larger_164 : decode cX7_larger 164 = .ok (.if_icmp .ne 7, 3) := by decide +kernel
theorem dX7_larger_167 : decode cX7_larger 167 = .ok (.iconst 1, 1) := by decide +kernel
theorem dX7_larger_168 : decode cX7_larger 168 = .ok (.goto 5, 3) := by decide +kernel
theorem dX7_larger_171 : decode cX7_larger 171 = .ok (.bipush 7, 2) := by decide +kernel
theorem dX7_larger_173 : decode cX7_larger 173 = .ok (.iload_n 1, 1) := by decide +kernel
theorem dX7_larger_174 : decode cX7_larger 174 = .ok (.invokevirtual 88, 3) := by decide +kernel
theorem dX7_larger_177 : decode cX7_larger 177 = .ok (.ireturn, 1) := by decide +kernel
theorem dX7_larger_178 : decode cX7_larger 178 = .ok (.aload_n 0, 1) := by decide +kernel
theorem dX7_larger_179 : decode cX7_larger 179 = .ok (.iload_n 1, 1) := by decide +kernel
theorem dX7_larger_180 : decode cX7_larger 180 = .ok (.iload_n 2, 1) := by decide +kernel
theorem dX7_larger_181 : decode cX7_larger 181 = .ok (.iconst 1, 1) := by decide +kernel
theorem dX7_larger_182 : decode cX7_larger 182 = .ok (.invokevirtual 143, 3) := by decide +kernel
theorem dX7_larger_185 : decode cX7_larger 185 = .ok (.ifCond .ne 5, 3) := by decide +kernel
theorem dX7_larger_188 : decode cX7_larger 188 = .ok (.iconst (-1), 1) := by decide +kernel
theorem dX7_larger_189 : decode cX7_larger 189 = .ok (.ireturn, 1) := by decide +kernel
theorem dX7_larger_190 : decode cX7_larger 190 = .ok (.aload_n 0, 1) := by decide +kernel
theorem dX7_larger_191 : decode cX7_larger 191 = .ok (.aload_n 0, 1) := by decide +kernel
theorem dX7_larger_192 : decode cX7_larger 192 = .ok (.bipush 6, 2) := by decide +kernel
theorem dX7_larger_194 : decode cX7_larger 194 = .ok (.aload_n 0, 1) := by decide +kernel
theorem dX7_larger_195 : decode cX7_larger 195 = .ok (.getfield 33, 3) := by decide +kernel
theorem dX7_larger_198 : decode cX7_larger 198 = .ok (.iload_n 2, 1) := by decide +kernel
theorem dX7_larger_199 : decode cX7_larger 199 = .ok (.laload, 1) := by decide +kernel
theorem dX7_larger_200 : decode cX7_larger 200 = .ok (.iconst (-1), 1) := by decide +kernel
theorem dX7_larger_201 : decode cX7_larger 201 = .ok (.iconst (-1), 1) := by decide +kernel
theorem dX7_larger_202 : decode cX7_larger 202 = .ok (.invokevirtual 78, 3) := by decide +kernel
theorem dX7_larger_205 : decode cX7_larger 205 = .ok (.putfield 42, 3) := by decide +kernel
theorem dX7_larger_208 : decode cX7_larger 208 = .ok (.aload_n 0, 1) := by decide +kernel
theorem dX7_larger_209 : decode cX7_larger 209 = .ok (.getfield 42, 3) := by decide +kernel
theorem dX7_larger_212 : decode cX7_larger 212 = .ok (.ireturn, 1) := by decide +kernel
theorem dX7_larger_213 : decode cX7_larger 213 = .ok (.iload_n 3, 1) := by decide +kernel
theorem dX7_larger_214 : decode cX7_larger 214 = .ok (.ireturn, 1) := by decide +kernel
theorem dX7_newRow_0 : decode cX7_newRow 0 = .ok (.aload_n 0, 1) := by decide +kernel
theorem dX7_newRow_1 : decode cX7_newRow 1 = .ok (.iload_n 1, 1) := by decide +kernel
theorem dX7_newRow_2 : decode cX7_newRow 2 = .ok (.iconst 0, 1) := by decide +kernel
theorem dX7_newRow_3 : decode cX7_newRow 3 = .ok (.invokevirtual 101, 3) := by decide +kernel
theorem dX7_newRow_6 : decode cX7_newRow 6 = .ok (.istore_n 3, 1) := by decide +kernel
theorem dX7_newRow_7 : decode cX7_newRow 7 = .ok (.iload_n 3, 1) := by decide +kernel
theorem dX7_newRow_8 : decode cX7_newRow 8 = .ok (.ifCond .lt 8, 3) := by decide +kernel
theorem dX7_newRow_11 : decode cX7_newRow 11 = .ok (.iload_n 3, 1) := by decide +kernel
theorem dX7_newRow_12 : decode cX7_newRow 12 = .ok (.iconst 2, 1) := by decide +kernel
theorem dX7_newRow_13 : decode cX7_newRow 13 = .ok (.if_icmp .le 12, 3) := by decide +kernel
theorem dX7_newRow_16 : decode cX7_newRow 16 = .ok (.aload_n 0, 1) := by decide +kernel
theorem dX7_newRow_17 : decode cX7_newRow 17 = .ok (.iconst 5, 1) := by decide +kernel
theorem dX7_newRow_18 : decode cX7_newRow 18 = .ok (.lconst 0, 1) := by decide +kernel
theorem dX7_newRow_19 : decode cX7_newRow 19 = .ok (.iconst (-1), 1) := by decide +kernel
theorem dX7_newRow_20 : decode cX7_newRow 20 = .ok (.iconst (-1), 1) := by decide +kernel
theorem dX7_newRow_21 : decode cX7_newRow 21 = .ok (.invokevirtual 78, 3) := by decide +kernel
theorem dX7_newRow_24 : decode cX7_newRow 24 = .ok (.ireturn, 1) := by decide +kernel
theorem dX7_newRow_25 : decode cX7_newRow 25 = .ok (.iload_n 2, 1) := by decide +kernel
theorem dX7_newRow_26 : decode cX7_newRow 26 = .ok (.ifCond .ge 10, 3) := by decide +kernel
theorem dX7_newRow_29 : decode cX7_newRow 29 = .ok (.aload_n 0, 1) := by decide +kernel
theorem dX7_newRow_30 : decode cX7_newRow 30 = .ok (.iconst 5, 1) := by decide +kernel
theorem dX7_newRow_31 : decode cX7_newRow 31 = .ok (.iload_n 1, 1) := by decide +kernel
theorem dX7_newRow_32 : decode cX7_newRow 32 = .ok (.invokevirtual 88, 3) := by decide +kernel
theorem dX7_newRow_35 : decode cX7_newRow 35 = .ok (.ireturn, 1) := by decide +kernel
theorem dX7_newRow_36 : decode cX7_newRow 36 = .ok (.iload_n 2, 1) := by decide +kernel
end
section
theorem dX7_newRow_37 : decode cX7_newRow 37 = .ok (.sipush 20000, 3) := by decide +kernel
theorem dX7_newRow_40 : decode cX7_newRow 40 = .ok (.aload_n 0, 1) := by decide +kernel
theorem dX7_newRow_41 : decode cX7_newRow 41 = .ok (.getfield 176, 3) := by decide +kernel
theorem dX7_newRow_44 : decode cX7_newRow 44 = .ok (.isub, 1) := by decide +kernel
theorem dX7_newRow_45 : decode cX7_newRow 45 = .ok (.if_icmp .le 11, 3) := by decide +kernel
theorem dX7_newRow_48 : decode cX7_newRow 48 = .ok (.aload_n 0, 1) := by decide +kernel
theorem dX7_newRow_49 : decode cX7_newRow 49 = .ok (.bipush 8, 2) := by decide +kernel
theorem dX7_newRow_51 : decode cX7_newRow 51 = .ok (.iload_n 1, 1) := by decide +kernel
theorem dX7_newRow_52 : decode cX7_newRow 52 = .ok (.invokevirtual 88, 3) := by decide +kernel
theorem dX7_newRow_55 : decode cX7_newRow 55 = .ok (.ireturn, 1) := by decide +kernel
theorem dX7_newRow_56 : decode cX7_newRow 56 = .ok (.aload_n 0, 1) := by decide +kernel
theorem dX7_newRow_57 : decode cX7_newRow 57 = .ok (.iconst 5, 1) := by decide +kernel
theorem dX7_newRow_58 : decode cX7_newRow 58 = .ok (.aload_n 0, 1) := by decide +kernel
theorem dX7_newRow_59 : decode cX7_newRow 59 = .ok (.getfield 176, 3) := by decide +kernel
theorem dX7_newRow_62 : decode cX7_newRow 62 = .ok (.i2l, 1) := by decide +kernel
theorem dX7_newRow_63 : decode cX7_newRow 63 = .ok (.iload_n 2, 1) := by decide +kernel
theorem dX7_newRow_64 : decode cX7_newRow 64 = .ok (.iload_n 3, 1) := by decide +kernel
theorem dX7_newRow_65 : decode cX7_newRow 65 = .ok (.invokevirtual 78, 3) := by decide +kernel
theorem dX7_newRow_68 : decode cX7_newRow 68 = .ok (.istore 4, 2) := by decide +kernel
theorem dX7_newRow_70 : decode cX7_newRow 70 = .ok (.iconst 0, 1) := by decide +kernel
theorem dX7_newRow_71 : decode cX7_newRow 71 = .ok (.istore 5, 2) := by decide +kernel
theorem dX7_newRow_73 : decode cX7_newRow 73 = .ok (.iload 5, 2) := by decide +kernel
theorem dX7_newRow_75 : decode cX7_newRow 75 = .ok (.iload_n 2, 1) := by decide +kernel
theorem dX7_newRow_76 : decode cX7_newRow 76 = .ok (.if_icmp .ge 22, 3) := by decide +kernel
theorem dX7_newRow_79 : decode cX7_newRow 79 = .ok (.aload_n 0, 1) := by decide +kernel
theorem dX7_newRow_80 : decode cX7_newRow 80 = .ok (.getfield 36, 3) := by decide +kernel
theorem dX7_newRow_83 : decode cX7_newRow 83 = .ok (.aload_n 0, 1) := by decide +kernel
theorem dX7_newRow_84 : decode cX7_newRow 84 = .ok (.getfield 176, 3) := by decide +kernel
theorem dX7_newRow_87 : decode cX7_newRow 87 = .ok (.iload 5, 2) := by decide +kernel
theorem dX7_newRow_89 : decode cX7_newRow 89 = .ok (.iadd, 1) := by decide +kernel
theorem dX7_newRow_90 : decode cX7_newRow 90 = .ok (.iconst (-1), 1) := by decide +kernel
theorem dX7_newRow_91 : decode cX7_newRow 91 = .ok (.iastore, 1) := by decide +kernel
theorem dX7_newRow_92 : decode cX7_newRow 92 = .ok (.iinc 5 1, 3) := by decide +kernel
theorem dX7_newRow_95 : decode cX7_newRow 95 = .ok (.goto (-22), 3) := by decide +kernel
theorem dX7_newRow_98 : decode cX7_newRow 98 = .ok (.aload_n 0, 1) := by decide +kernel
theorem dX7_newRow_99 : decode cX7_newRow 99 = .ok (.dup, 1) := by decide +kernel
theorem dX7_newRow_100 : decode cX7_newRow 100 = .ok (.getfield 176, 3) := by decide +kernel
theorem dX7_newRow_103 : decode cX7_newRow 103 = .ok (.iload_n 2, 1) := by decide +kernel
theorem dX7_newRow_104 : decode cX7_newRow 104 = .ok (.iadd, 1) := by decide +kernel
theorem dX7_newRow_105 : decode cX7_newRow 105 = .ok (.putfield 176, 3) := by decide +kernel
theorem dX7_newRow_108 : decode cX7_newRow 108 = .ok (.iload 4, 2) := by decide +kernel
theorem dX7_newRow_110 : decode cX7_newRow 110 = .ok (.ireturn, 1) := by decide +kernel
theorem dX7_inRow_0 : decode cX7_inRow 0 = .ok (.aload_n 0, 1) := by decide +kernel
theorem dX7_inRow_1 : decode cX7_inRow 1 = .ok (.getfield 27, 3) := by decide +kernel
theorem dX7_inRow_4 : decode cX7_inRow 4 = .ok (.iload_n 2, 1) := by decide +kernel
theorem dX7_inRow_5 : decode cX7_inRow 5 = .ok (.iaload, 1) := by decide +kernel
theorem dX7_inRow_6 : decode cX7_inRow 6 = .ok (.iconst (-1), 1) := by decide +kernel
theorem dX7_inRow_7 : decode cX7_inRow 7 = .ok (.if_icmp .ne 10, 3) := by decide +kernel
theorem dX7_inRow_10 : decode cX7_inRow 10 = .ok (.aload_n 0, 1) := by decide +kernel
theorem dX7_inRow_11 : decode cX7_inRow 11 = .ok (.iconst 1, 1) := by decide +kernel
theorem dX7_inRow_12 : decode cX7_inRow 12 = .ok (.iload_n 1, 1) := by decide +kernel
theorem dX7_inRow_13 : decode cX7_inRow 13 = .ok (.invokevirtual 88, 3) := by decide +kernel
theorem dX7_inRow_16 : decode cX7_inRow 16 = .ok (.ireturn, 1) := by decide +kernel
theorem dX7_inRow_17 : decode cX7_inRow 17 = .ok (.iload_n 3, 1) := by decide +kernel
theorem dX7_inRow_18 : decode cX7_inRow 18 = .ok (.ifCond .lt 13, 3) := by decide +kernel
theorem dX7_inRow_21 : decode cX7_inRow 21 = .ok (.iload_n 3, 1) := by decide +kernel
theorem dX7_inRow_22 : decode cX7_inRow 22 = .ok (.aload_n 0, 1) := by decide +kernel
theorem dX7_inRow_23 : decode cX7_inRow 23 = .ok (.getfield 27, 3) := by decide +kernel
theorem dX7_inRow_26 : decode cX7_inRow 26 = .ok (.iload_n 2, 1) := by decide +kernel
theorem dX7_inRow_27 : decode cX7_inRow 27 = .ok (.iaload, 1) := by decide +kernel
theorem dX7_inRow_28 : decode cX7_inRow 28 = .ok (.if_icmp .lt 10, 3) := by decide +kernel
theorem dX7_inRow_31 : decode cX7_inRow 31 = .ok (.aload_n 0, 1) := by decide +kernel
theorem dX7_inRow_32 : decode cX7_inRow 32 = .ok (.iconst 2, 1) := by decide +kernel
theorem dX7_inRow_33 : decode cX7_inRow 33 = .ok (.iload_n 1, 1) := by decide +kernel
theorem dX7_inRow_34 : decode cX7_inRow 34 = .ok (.invokevirtual 88, 3) := by decide +kernel
theorem dX7_inRow_37 : decode cX7_inRow 37 = .ok (.ireturn, 1) := by decide +kernel
theorem dX7_inRow_38 : decode cX7_inRow 38 = .ok (.aload_n 0, 1) := by decide +kernel
theorem dX7_inRow_39 : decode cX7_inRow 39 = .ok (.getfield 33, 3) := by decide +kernel
theorem dX7_inRow_42 : decode cX7_inRow 42 = .ok (.iload_n 2, 1) := by decide +kernel
theorem dX7_inRow_43 : decode cX7_inRow 43 = .ok (.laload, 1) := by decide +kernel
theorem dX7_inRow_44 : decode cX7_inRow 44 = .ok (.l2i, 1) := by decide +kernel
theorem dX7_inRow_45 : decode cX7_inRow 45 = .ok (.iload_n 3, 1) := by decide +kernel
theorem dX7_inRow_46 : decode cX7_inRow 46 = .ok (.iadd, 1) := by decide +kernel
theorem dX7_inRow_47 : decode cX7_inRow 47 = .ok (.istore 5, 2) := by decide +kernel
theorem dX7_inRow_49 : decode cX7_inRow 49 = .ok (.aload_n 0, 1) := by decide +kernel
theorem dX7_inRow_50 : decode cX7_inRow 50 = .ok (.getfield 13, 3) := by decide +kernel
theorem dX7_inRow_53 : decode cX7_inRow 53 = .ok (.iload_n 1, 1) := by decide +kernel
theorem dX7_inRow_54 : decode cX7_inRow 54 = .ok (.iaload, 1) := by decide +kernel
theorem dX7_inRow_55 : decode cX7_inRow 55 = .ok (.bipush 13, 2) := by decide +kernel
theorem dX7_inRow_57 : decode cX7_inRow 57 = .ok (.if_icmp .ne 11, 3) := by decide +kernel
theorem dX7_inRow_60 : decode cX7_inRow 60 = .ok (.aload_n 0, 1) := by decide +kernel
theorem dX7_inRow_61 : decode cX7_inRow 61 = .ok (.getfield 36, 3) := by decide +kernel
theorem dX7_inRow_64 : decode cX7_inRow 64 = .ok (.iload 5, 2) := by decide +kernel
theorem dX7_inRow_66 : decode cX7_inRow 66 = .ok (.iaload, 1) := by decide +kernel
theorem dX7_inRow_67 : decode cX7_inRow 67 = .ok (.ireturn, 1) := by decide +kernel
theorem dX7_inRow_68 : decode cX7_inRow 68 = .ok (.iload 4, 2) := by decide +kernel
theorem dX7_inRow_70 : decode cX7_inRow 70 = .ok (.iconst (-1), 1) := by decide +kernel
theorem dX7_inRow_71 : decode cX7_inRow 71 = .ok (.if_icmp .eq 29, 3) := by decide +kernel
theorem dX7_inRow_74 : decode cX7_inRow 74 = .ok (.aload_n 0, 1) := by decide +kernel
theorem dX7_inRow_75 : decode cX7_inRow 75 = .ok (.getfield 24, 3) := by decide +kernel
theorem dX7_inRow_78 : decode cX7_inRow 78 = .ok (.iload 4, 2) := by decide +kernel
theorem dX7_inRow_80 : decode cX7_inRow 80 = .ok (.iaload, 1) := by decide +kernel
theorem dX7_inRow_81 : decode cX7_inRow 81 = .ok (.iconst 2, 1) := by decide +kernel
theorem dX7_inRow_82 : decode cX7_inRow 82 = .ok (.if_icmp .eq 14, 3) := by decide +kernel
theorem dX7_inRow_85 : decode cX7_inRow 85 = .ok (.aload_n 0, 1) := by decide +kernel
theorem dX7_inRow_86 : decode cX7_inRow 86 = .ok (.getfield 24, 3) := by decide +kernel
theorem dX7_inRow_89 : decode cX7_inRow 89 = .ok (.iload 4, 2) := by decide +kernel
theorem dX7_inRow_91 : decode cX7_inRow 91 = .ok (.iaload, 1) := by decide +kernel
theorem dX7_inRow_92 : decode cX7_inRow 92 = .ok (.iconst 3, 1) := by decide +kernel
theorem dX7_inRow_93 : decode cX7_inRow 93 = .ok (.if_icmp .ne 7, 3) := by decide +kernel
theorem dX7_inRow_96 : decode cX7_inRow 96 = .ok (.iconst 1, 1) := by decide +kernel
theorem dX7_inRow_97 : decode cX7_inRow 97 = .ok (.goto 4, 3) := by decide +kernel
theorem dX7_inRow_100 : decode cX7_inRow 100 = .ok (.iconst 0, 1) := by decide +kernel
theorem dX7_inRow_101 : decode cX7_inRow 101 = .ok (.istore 6, 2) := by decide +kernel
theorem dX7_inRow_103 : decode cX7_inRow 103 = .ok (.iload 4, 2) := by decide +kernel
theorem dX7_inRow_105 : decode cX7_inRow 105 = .ok (.iconst (-1), 1) := by decide +kernel
theorem dX7_inRow_106 : decode cX7_inRow 106 = .ok (.if_icmp .eq 46, 3) := by decide +kernel
theorem dX7_inRow_109 : decode cX7_inRow 109 = .ok (.aload_n 0, 1) := by decide +kernel
theorem dX7_inRow_110 : decode cX7_inRow 110 = .ok (.getfield 30, 3) := by decide +kernel
theorem dX7_inRow_113 : decode cX7_inRow 113 = .ok (.iload_n 2, 1) := by decide +kernel
theorem dX7_inRow_114 : decode cX7_inRow 114 = .ok (.iaload, 1) := by decide +kernel
theorem dX7_inRow_115 : decode cX7_inRow 115 = .ok (.iconst 1, 1) := by decide +kernel
theorem dX7_inRow_116 : decode cX7_inRow 116 = .ok (.if_icmp .ne 8, 3) := by decide +kernel
theorem dX7_inRow_119 : decode cX7_inRow 119 = .ok (.iload 6, 2) := by decide +kernel
theorem dX7_inRow_121 : decode cX7_inRow 121 = .ok (.ifCond .eq 24, 3) := by decide +kernel
theorem dX7_inRow_124 : decode cX7_inRow 124 = .ok (.aload_n 0, 1) := by decide +kernel
theorem dX7_inRow_125 : decode cX7_inRow 125 = .ok (.getfield 30, 3) := by decide +kernel
theorem dX7_inRow_128 : decode cX7_inRow 128 = .ok (.iload_n 2, 1) := by decide +kernel
theorem dX7_inRow_129 : decode cX7_inRow 129 = .ok (.iaload, 1) := by decide +kernel
theorem dX7_inRow_130 : decode cX7_inRow 130 = .ok (.iconst 2, 1) := by decide +kernel
theorem dX7_inRow_131 : decode cX7_inRow 131 = .ok (.if_icmp .ne 21, 3) := by decide +kernel
theorem dX7_inRow_134 : decode cX7_inRow 134 = .ok (.aload_n 0, 1) := by decide +kernel
theorem dX7_inRow_135 : decode cX7_inRow 135 = .ok (.getfield 24, 3) := by decide +kernel
theorem dX7_inRow_138 : decode cX7_inRow 138 = .ok (.iload 4, 2) := by decide +kernel
theorem dX7_inRow_140 : decode cX7_inRow 140 = .ok (.iaload, 1) := by decide +kernel
theorem dX7_inRow_141 : decode cX7_inRow 141 = .ok (.iconst 3, 1) := by decide +kernel
theorem dX7_inRow_142 : decode cX7_inRow 142 = .ok (.if_icmp .eq 10, 3) := by decide +kernel
theorem dX7_inRow_145 : decode cX7_inRow 145 = .ok (.aload_n 0, 1) := by decide +kernel
theorem dX7_inRow_146 : decode cX7_inRow 146 = .ok (.iconst 4, 1) := by decide +kernel
theorem dX7_inRow_147 : decode cX7_inRow 147 = .ok (.iload_n 1, 1) := by decide +kernel
theorem dX7_inRow_148 : decode cX7_inRow 148 = .ok (.invokevirtual 88, 3) := by decide +kernel
theorem dX7_inRow_151 : decode cX7_inRow 151 = .ok (.ireturn, 1) := by decide +kernel
theorem dX7_inRow_152 : decode cX7_inRow 152 = .ok (.aload_n 0, 1) := by decide +kernel
theorem dX7_inRow_153 : decode cX7_inRow 153 = .ok (.getfield 36, 3) := by decide +kernel
theorem dX7_inRow_156 : decode cX7_inRow 156 = .ok (.iload 5, 2) := by decide +kernel
theorem dX7_inRow_158 : decode cX7_inRow 158 = .ok (.iload 4, 2) := by decide +kernel
theorem dX7_inRow_160 : decode cX7_inRow 160 = .ok (.iastore, 1) := by decide +kernel
theorem dX7_inRow_161 : decode cX7_inRow 161 = .ok (.iload 4, 2) := by decide +kernel
theorem dX7_inRow_163 : decode cX7_inRow 163 = .ok (.ireturn, 1) := by decide +kernel
theorem dX7_thingAt_0 : decode cX7_thingAt 0 = .ok (.iload_n 1, 1) := by decide +kernel
theorem dX7_thingAt_1 : decode cX7_thingAt 1 = .ok (.iconst (-1), 1) := by decide +kernel
theorem dX7_thingAt_2 : decode cX7_thingAt 2 = .ok (.if_icmp .ne 8, 3) := by decide +kernel
theorem dX7_thingAt_5 : decode cX7_thingAt 5 = .ok (.aload_n 0, 1) := by decide +kernel
theorem dX7_thingAt_6 : decode cX7_thingAt 6 = .ok (.getfield 58, 3) := by decide +kernel
theorem dX7_thingAt_9 : decode cX7_thingAt 9 = .ok (.ireturn, 1) := by decide +kernel
theorem dX7_thingAt_10 : decode cX7_thingAt 10 = .ok (.iload_n 1, 1) := by decide +kernel
theorem dX7_thingAt_11 : decode cX7_thingAt 11 = .ok (.ifCond .lt 10, 3) := by decide +kernel
theorem dX7_thingAt_14 : decode cX7_thingAt 14 = .ok (.iload_n 1, 1) := by decide +kernel
theorem dX7_thingAt_15 : decode cX7_thingAt 15 = .ok (.sipush 255, 3) := by decide +kernel
theorem dX7_thingAt_18 : decode cX7_thingAt 18 = .ok (.if_icmp .le 7, 3) := by decide +kernel
theorem dX7_thingAt_21 : decode cX7_thingAt 21 = .ok (.iconst (-1), 1) := by decide +kernel
theorem dX7_thingAt_22 : decode cX7_thingAt 22 = .ok (.goto 9, 3) := by decide +kernel
theorem dX7_thingAt_25 : decode cX7_thingAt 25 = .ok (.aload_n 0, 1) := by decide +kernel
theorem dX7_thingAt_26 : decode cX7_thingAt 26 = .ok (.getfield 39, 3) := by decide +kernel
theorem dX7_thingAt_29 : decode cX7_thingAt 29 = .ok (.iload_n 1, 1) := by decide +kernel
theorem dX7_thingAt_30 : decode cX7_thingAt 30 = .ok (.iaload, 1) := by decide +kernel
theorem dX7_thingAt_31 : decode cX7_thingAt 31 = .ok (.ireturn, 1) := by decide +kernel
theorem dX7_value_0 : decode cX7_value 0 = .ok (.aload_n 0, 1) := by decide +kernel
theorem dX7_value_1 : decode cX7_value 1 = .ok (.iload_n 1, 1) := by decide +kernel
theorem dX7_value_2 : decode cX7_value 2 = .ok (.invokevirtual 179, 3) := by decide +kernel
theorem dX7_value_5 : decode cX7_value 5 = .ok (.istore_n 2, 1) := by decide +kernel
theorem dX7_value_6 : decode cX7_value 6 = .ok (.iload_n 2, 1) := by decide +kernel
theorem dX7_value_7 : decode cX7_value 7 = .ok (.iconst (-1), 1) := by decide +kernel
theorem dX7_value_8 : decode cX7_value 8 = .ok (.if_icmp .eq 33, 3) := by decide +kernel
theorem dX7_value_11 : decode cX7_value 11 = .ok (.aload_n 0, 1) := by decide +kernel
theorem dX7_value_12 : decode cX7_value 12 = .ok (.getfield 24, 3) := by decide +kernel
theorem dX7_value_15 : decode cX7_value 15 = .ok (.iload_n 2, 1) := by decide +kernel
theorem dX7_value_16 : decode cX7_value 16 = .ok (.iaload, 1) := by decide +kernel
theorem dX7_value_17 : decode cX7_value 17 = .ok (.iconst 1, 1) := by decide +kernel
theorem dX7_value_18 : decode cX7_value 18 = .ok (.if_icmp .eq 14, 3) := by decide +kernel
theorem dX7_value_21 : decode cX7_value 21 = .ok (.aload_n 0, 1) := by decide +kernel
theorem dX7_value_22 : decode cX7_value 22 = .ok (.getfield 24, 3) := by decide +kernel
theorem dX7_value_25 : decode cX7_value 25 = .ok (.iload_n 2, 1) := by decide +kernel
theorem dX7_value_26 : decode cX7_value 26 = .ok (.iaload, 1) := by decide +kernel
theorem dX7_value_27 : decode cX7_value 27 = .ok (.bipush 6, 2) := by decide +kernel
theorem dX7_value_29 : decode cX7_value 29 = .ok (.if_icmp .ne 12, 3) := by decide +kernel
theorem dX7_value_32 : decode cX7_value 32 = .ok (.aload_n 0, 1) := by decide +kernel
theorem dX7_value_33 : decode cX7_value 33 = .ok (.getfield 33, 3) := by decide +kernel
theorem dX7_value_36 : decode cX7_value 36 = .ok (.iload_n 2, 1) := by decide +kernel
theorem dX7_value_37 : decode cX7_value 37 = .ok (.laload, 1) := by decide +kernel
theorem dX7_value_38 : decode cX7_value 38 = .ok (.goto 4, 3) := by decide +kernel
theorem dX7_value_41 : decode cX7_value 41 = .ok (.lconst 0, 1) := by decide +kernel
theorem dX7_value_42 : decode cX7_value 42 = .ok (.lreturn, 1) := by decide +kernel
theorem dX7_thing_0 : decode cX7_thing 0 = .ok (.iload_n 1, 1) := by decide +kernel
theorem dX7_thing_1 : decode cX7_thing 1 = .ok (.iconst (-1), 1) := by decide +kernel
theorem dX7_thing_2 : decode cX7_thing 2 = .ok (.if_icmp .lt 19, 3) := by decide +kernel
theorem dX7_thing_5 : decode cX7_thing 5 = .ok (.iload_n 1, 1) := by decide +kernel
theorem dX7_thing_6 : decode cX7_thing 6 = .ok (.sipush 255, 3) := by decide +kernel
theorem dX7_thing_9 : decode cX7_thing 9 = .ok (.if_icmp .gt 12, 3) := by decide +kernel
theorem dX7_thing_12 : decode cX7_thing 12 = .ok (.iload_n 2, 1) := by decide +kernel
theorem dX7_thing_13 : decode cX7_thing 13 = .ok (.ifCond .lt 8, 3) := by decide +kernel
theorem dX7_thing_16 : decode cX7_thing 16 = .ok (.iload_n 2, 1) := by decide +kernel
theorem dX7_thing_17 : decode cX7_thing 17 = .ok (.iconst 3, 1) := by decide +kernel
theorem dX7_thing_18 : decode cX7_thing 18 = .ok (.if_icmp .le 5, 3) := by decide +kernel
theorem dX7_thing_21 : decode cX7_thing 21 = .ok (.iconst (-1), 1) := by decide +kernel
theorem dX7_thing_22 : decode cX7_thing 22 = .ok (.ireturn, 1) := by decide +kernel
theorem dX7_thing_23 : decode cX7_thing 23 = .ok (.aload_n 0, 1) := by decide +kernel
theorem dX7_thing_24 : decode cX7_thing 24 = .ok (.iload_n 1, 1) := by decide +kernel
theorem dX7_thing_25 : decode cX7_thing 25 = .ok (.invokevirtual 179, 3) := by decide +kernel
theorem dX7_thing_28 : decode cX7_thing 28 = .ok (.istore_n 3, 1) := by decide +kernel
theorem dX7_thing_29 : decode cX7_thing 29 = .ok (.iload_n 2, 1) := by decide +kernel
theorem dX7_thing_30 : decode cX7_thing 30 = .ok (.ifCond .ne 19, 3) := by decide +kernel
theorem dX7_thing_33 : decode cX7_thing 33 = .ok (.iload_n 3, 1) := by decide +kernel
theorem dX7_thing_34 : decode cX7_thing 34 = .ok (.iconst (-1), 1) := by decide +kernel
theorem dX7_thing_35 : decode cX7_thing 35 = .ok (.if_icmp .ne 7, 3) := by decide +kernel
theorem dX7_thing_38 : decode cX7_thing 38 = .ok (.iconst 0, 1) := by decide +kernel
theorem dX7_thing_39 : decode cX7_thing 39 = .ok (.goto 9, 3) := by decide +kernel
theorem dX7_thing_42 : decode cX7_thing 42 = .ok (.aload_n 0, 1) := by decide +kernel
theorem dX7_thing_43 : decode cX7_thing 43 = .ok (.getfield 24, 3) := by decide +kernel
theorem dX7_thing_46 : decode cX7_thing 46 = .ok (.iload_n 3, 1) := by decide +kernel
theorem dX7_thing_47 : decode cX7_thing 47 = .ok (.iaload, 1) := by decide +kernel
theorem dX7_thing_48 : decode cX7_thing 48 = .ok (.ireturn, 1) := by decide +kernel
theorem dX7_thing_49 : decode cX7_thing 49 = .ok (.iload_n 3, 1) := by decide +kernel
theorem dX7_thing_50 : decode cX7_thing 50 = .ok (.iconst (-1), 1) := by decide +kernel
theorem dX7_thing_51 : decode cX7_thing 51 = .ok (.if_icmp .ne 5, 3) := by decide +kernel
theorem dX7_thing_54 : decode cX7_thing 54 = .ok (.iconst (-1), 1) := by decide +kernel
theorem dX7_thing_55 : decode cX7_thing 55 = .ok (.ireturn, 1) := by decide +kernel
theorem dX7_thing_56 : decode cX7_thing 56 = .ok (.iload_n 2, 1) := by decide +kernel
theorem dX7_thing_57 : decode cX7_thing 57 = .ok (.iconst 1, 1) := by decide +kernel
theorem dX7_thing_58 : decode cX7_thing 58 = .ok (.if_icmp .ne 5, 3) := by decide +kernel
theorem dX7_thing_61 : decode cX7_thing 61 = .ok (.iload_n 3, 1) := by decide +kernel
theorem dX7_thing_62 : decode cX7_thing 62 = .ok (.ireturn, 1) := by decide +kernel
theorem dX7_thing_63 : decode cX7_thing 63 = .ok (.aload_n 0, 1) := by decide +kernel
theorem dX7_thing_64 : decode cX7_thing 64 = .ok (.getfield 24, 3) := by decide +kernel
theorem dX7_thing_67 : decode cX7_thing 67 = .ok (.iload_n 3, 1) := by decide +kernel
theorem dX7_thing_68 : decode cX7_thing 68 = .ok (.iaload, 1) := by decide +kernel
theorem dX7_thing_69 : decode cX7_thing 69 = .ok (.iconst 2, 1) := by decide +kernel
theorem dX7_thing_70 : decode cX7_thing 70 = .ok (.if_icmp .eq 13, 3) := by decide +kernel
theorem dX7_thing_73 : decode cX7_thing 73 = .ok (.aload_n 0, 1) := by decide +kernel
theorem dX7_thing_74 : decode cX7_thing 74 = .ok (.getfield 24, 3) := by decide +kernel
theorem dX7_thing_77 : decode cX7_thing 77 = .ok (.iload_n 3, 1) := by decide +kernel
theorem dX7_thing_78 : decode cX7_thing 78 = .ok (.iaload, 1) := by decide +kernel
theorem dX7_thing_79 : decode cX7_thing 79 = .ok (.iconst 3, 1) := by decide +kernel
theorem dX7_thing_80 : decode cX7_thing 80 = .ok (.if_icmp .ne 7, 3) := by decide +kernel
theorem dX7_thing_83 : decode cX7_thing 83 = .ok (.iconst 1, 1) := by decide +kernel
theorem dX7_thing_84 : decode cX7_thing 84 = .ok (.goto 4, 3) := by decide +kernel
theorem dX7_thing_87 : decode cX7_thing 87 = .ok (.iconst 0, 1) := by decide +kernel
theorem dX7_thing_88 : decode cX7_thing 88 = .ok (.istore 4, 2) := by decide +kernel
theorem dX7_thing_90 : decode cX7_thing 90 = .ok (.iload_n 2, 1) := by decide +kernel
theorem dX7_thing_91 : decode cX7_thing 91 = .ok (.iconst 2, 1) := by decide +kernel
theorem dX7_thing_92 : decode cX7_thing 92 = .ok (.if_icmp .ne 39, 3) := by decide +kernel
theorem dX7_thing_95 : decode cX7_thing 95 = .ok (.iload 4, 2) := by decide +kernel
theorem dX7_thing_97 : decode cX7_thing 97 = .ok (.ifCond .ne 23, 3) := by decide +kernel
theorem dX7_thing_100 : decode cX7_thing 100 = .ok (.aload_n 0, 1) := by decide +kernel
theorem dX7_thing_101 : decode cX7_thing 101 = .ok (.getfield 24, 3) := by decide +kernel
theorem dX7_thing_104 : decode cX7_thing 104 = .ok (.iload_n 3, 1) := by decide +kernel
theorem dX7_thing_105 : decode cX7_thing 105 = .ok (.iaload, 1) := by decide +kernel
theorem dX7_thing_106 : decode cX7_thing 106 = .ok (.iconst 4, 1) := by decide +kernel
theorem dX7_thing_107 : decode cX7_thing 107 = .ok (.if_icmp .eq 13, 3) := by decide +kernel
theorem dX7_thing_110 : decode cX7_thing 110 = .ok (.aload_n 0, 1) := by decide +kernel
theorem dX7_thing_111 : decode cX7_thing 111 = .ok (.getfield 24, 3) := by decide +kernel
theorem dX7_thing_114 : decode cX7_thing 114 = .ok (.iload_n 3, 1) := by decide +kernel
theorem dX7_thing_115 : decode cX7_thing 115 = .ok (.iaload, 1) := by decide +kernel
theorem dX7_thing_116 : decode cX7_thing 116 = .ok (.iconst 5, 1) := by decide +kernel
theorem dX7_thing_117 : decode cX7_thing 117 = .ok (.if_icmp .ne 12, 3) := by decide +kernel
theorem dX7_thing_120 : decode cX7_thing 120 = .ok (.aload_n 0, 1) := by decide +kernel
theorem dX7_thing_121 : decode cX7_thing 121 = .ok (.getfield 27, 3) := by decide +kernel
theorem dX7_thing_124 : decode cX7_thing 124 = .ok (.iload_n 3, 1) := by decide +kernel
theorem dX7_thing_125 : decode cX7_thing 125 = .ok (.iaload, 1) := by decide +kernel
theorem dX7_thing_126 : decode cX7_thing 126 = .ok (.goto 4, 3) := by decide +kernel
theorem dX7_thing_129 : decode cX7_thing 129 = .ok (.iconst (-1), 1) := by decide +kernel
theorem dX7_thing_130 : decode cX7_thing 130 = .ok (.ireturn, 1) := by decide +kernel
theorem dX7_thing_131 : decode cX7_thing 131 = .ok (.iload 4, 2) := by decide +kernel
theorem dX7_thing_133 : decode cX7_thing 133 = .ok (.ifCond .ne 13, 3) := by decide +kernel
theorem dX7_thing_136 : decode cX7_thing 136 = .ok (.aload_n 0, 1) := by decide +kernel
theorem dX7_thing_137 : decode cX7_thing 137 = .ok (.getfield 24, 3) := by decide +kernel
theorem dX7_thing_140 : decode cX7_thing 140 = .ok (.iload_n 3, 1) := by decide +kernel
theorem dX7_thing_141 : decode cX7_thing 141 = .ok (.iaload, 1) := by decide +kernel
theorem dX7_thing_142 : decode cX7_thing 142 = .ok (.iconst 5, 1) := by decide +kernel
theorem dX7_thing_143 : decode cX7_thing 143 = .ok (.if_icmp .ne 12, 3) := by decide +kernel
theorem dX7_thing_146 : decode cX7_thing 146 = .ok (.aload_n 0, 1) := by decide +kernel
theorem dX7_thing_147 : decode cX7_thing 147 = .ok (.getfield 30, 3) := by decide +kernel
theorem dX7_thing_150 : decode cX7_thing 150 = .ok (.iload_n 3, 1) := by decide +kernel
theorem dX7_thing_151 : decode cX7_thing 151 = .ok (.iaload, 1) := by decide +kernel
theorem dX7_thing_152 : decode cX7_thing 152 = .ok (.goto 4, 3) := by decide +kernel
theorem dX7_thing_155 : decode cX7_thing 155 = .ok (.iconst (-1), 1) := by decide +kernel
theorem dX7_thing_156 : decode cX7_thing 156 = .ok (.ireturn, 1) := by decide +kernel
theorem dX7_fault_0 : decode cX7_fault 0 = .ok (.aload_n 0, 1) := by decide +kernel
theorem dX7_fault_1 : decode cX7_fault 1 = .ok (.getfield 108, 3) := by decide +kernel
theorem dX7_fault_4 : decode cX7_fault 4 = .ok (.ireturn, 1) := by decide +kernel
theorem dX7_faultNode_0 : decode cX7_faultNode 0 = .ok (.aload_n 0, 1) := by decide +kernel
theorem dX7_faultNode_1 : decode cX7_faultNode 1 = .ok (.getfield 61, 3) := by decide +kernel
theorem dX7_faultNode_4 : decode cX7_faultNode 4 = .ok (.ireturn, 1) := by decide +kernel
theorem dX7_steps_0 : decode cX7_steps 0 = .ok (.aload_n 0, 1) := by decide +kernel
theorem dX7_steps_1 : decode cX7_steps 1 = .ok (.getfield 95, 3) := by decide +kernel
theorem dX7_steps_4 : decode cX7_steps 4 = .ok (.ireturn, 1) := by decide +kernel
theorem dX7_wipe_0 : decode cX7_wipe 0 = .ok (.aload_n 0, 1) := by decide +kernel
theorem dX7_wipe_1 : decode cX7_wipe 1 = .ok (.iconst 0, 1) := by decide +kernel
theorem dX7_wipe_2 : decode cX7_wipe 2 = .ok (.putfield 64, 3) := by decide +kernel
theorem dX7_wipe_5 : decode cX7_wipe 5 = .ok (.aload_n 0, 1) := by decide +kernel
theorem dX7_wipe_6 : decode cX7_wipe 6 = .ok (.iconst (-1), 1) := by decide +kernel
theorem dX7_wipe_7 : decode cX7_wipe 7 = .ok (.putfield 42, 3) := by decide +kernel
theorem dX7_wipe_10 : decode cX7_wipe 10 = .ok (.aload_n 0, 1) := by decide +kernel
theorem dX7_wipe_11 : decode cX7_wipe 11 = .ok (.iconst (-1), 1) := by decide +kernel
theorem dX7_wipe_12 : decode cX7_wipe 12 = .ok (.putfield 58, 3) := by decide +kernel
theorem dX7_wipe_15 : decode cX7_wipe 15 = .ok (.iconst 0, 1) := by decide +kernel
theorem dX7_wipe_16 : decode cX7_wipe 16 = .ok (.istore_n 1, 1) := by decide +kernel
theorem dX7_wipe_17 : decode cX7_wipe 17 = .ok (.iload_n 1, 1) := by decide +kernel
theorem dX7_wipe_18 : decode cX7_wipe 18 = .ok (.sipush 256, 3) := by decide +kernel
theorem dX7_wipe_21 : decode cX7_wipe 21 = .ok (.if_icmp .ge 16, 3) := by decide +kernel
theorem dX7_wipe_24 : decode cX7_wipe 24 = .ok (.aload_n 0, 1) := by decide +kernel
theorem dX7_wipe_25 : decode cX7_wipe 25 = .ok (.getfield 39, 3) := by decide +kernel
theorem dX7_wipe_28 : decode cX7_wipe 28 = .ok (.iload_n 1, 1) := by decide +kernel
theorem dX7_wipe_29 : decode cX7_wipe 29 = .ok (.iconst (-1), 1) := by decide +kernel
theorem dX7_wipe_30 : decode cX7_wipe 30 = .ok (.iastore, 1) := by decide +kernel
theorem dX7_wipe_31 : decode cX7_wipe 31 = .ok (.iinc 1 1, 3) := by decide +kernel
theorem dX7_wipe_34 : decode cX7_wipe 34 = .ok (.goto (-17), 3) := by decide +kernel
theorem dX7_wipe_37 : decode cX7_wipe 37 = .ok (.return_, 1) := by decide +kernel
theorem dJ9_max_7cf53_0 : decode cJ9_max_7cf53 0 = .ok (.iload_n 0, 1) := by decide +kernel
theorem dJ9_max_7cf53_1 : decode cJ9_max_7cf53 1 = .ok (.iload_n 1, 1) := by decide +kernel
theorem dJ9_max_7cf53_2 : decode cJ9_max_7cf53 2 = .ok (.if_icmp .lt 7, 3) := by decide +kernel
theorem dJ9_max_7cf53_5 : decode cJ9_max_7cf53 5 = .ok (.iload_n 0, 1) := by decide +kernel
theorem dJ9_max_7cf53_6 : decode cJ9_max_7cf53 6 = .ok (.goto 4, 3) := by decide +kernel
theorem dJ9_max_7cf53_9 : decode cJ9_max_7cf53 9 = .ok (.iload_n 1, 1) := by decide +kernel
theorem dJ9_max_7cf53_10 : decode cJ9_max_7cf53 10 = .ok (.ireturn, 1) := by decide +kernel
theorem dJ9_min_7cf53_0 : decode cJ9_min_7cf53 0 = .ok (.iload_n 0, 1) := by decide +kernel
theorem dJ9_min_7cf53_1 : decode cJ9_min_7cf53 1 = .ok (.iload_n 1, 1) := by decide +kernel
theorem dJ9_min_7cf53_2 : decode cJ9_min_7cf53 2 = .ok (.if_icmp .gt 7, 3) := by decide +kernel
theorem dJ9_min_7cf53_5 : decode cJ9_min_7cf53 5 = .ok (.iload_n 0, 1) := by decide +kernel
theorem dJ9_min_7cf53_6 : decode cJ9_min_7cf53 6 = .ok (.goto 4, 3) := by decide +kernel
theorem dJ9_min_7cf53_9 : decode cJ9_min_7cf53 9 = .ok (.iload_n 1, 1) := by decide +kernel
theorem dJ9_min_7cf53_10 : decode cJ9_min_7cf53 10 = .ok (.ireturn, 1) := by decide +kernel
theorem dJxa1e45_init_da8c8_0 : decode cJxa1e45_init_da8c8 0 = .ok (.aload_n 0, 1) := by decide +kernel
theorem dJxa1e45_init_da8c8_1 : decode cJxa1e45_init_da8c8 1 = .ok (.invokespecial 1, 3) := by decide +kernel
theorem dJxa1e45_init_da8c8_4 : decode cJxa1e45_init_da8c8 4 = .ok (.return_, 1) := by decide +kernel
theorem dJxc12de_init_da8c8_0 : decode cJxc12de_init_da8c8 0 = .ok (.aload_n 0, 1) := by decide +kernel
theorem dJxc12de_init_da8c8_1 : decode cJxc12de_init_da8c8 1 = .ok (.invokespecial 1, 3) := by decide +kernel
theorem dJxc12de_init_da8c8_4 : decode cJxc12de_init_da8c8 4 = .ok (.aload_n 0, 1) := by decide +kernel
theorem dJxc12de_init_da8c8_5 : decode cJxc12de_init_da8c8 5 = .ok (.iconst 0, 1) := by decide +kernel
theorem dJxc12de_init_da8c8_6 : decode cJxc12de_init_da8c8 6 = .ok (.putfield 7, 3) := by decide +kernel
theorem dJxc12de_init_da8c8_9 : decode cJxc12de_init_da8c8 9 = .ok (.return_, 1) := by decide +kernel
theorem dJx4a65c_init_da8c8_0 : decode cJx4a65c_init_da8c8 0 = .ok (.aload_n 0, 1) := by decide +kernel
theorem dJx4a65c_init_da8c8_1 : decode cJx4a65c_init_da8c8 1 = .ok (.invokespecial 1, 3) := by decide +kernel
theorem dJx4a65c_init_da8c8_4 : decode cJx4a65c_init_da8c8 4 = .ok (.aload_n 0, 1) := by decide +kernel
theorem dJx4a65c_init_da8c8_5 : decode cJx4a65c_init_da8c8 5 = .ok (.getstatic 39, 3) := by decide +kernel
theorem dJx4a65c_init_da8c8_8 : decode cJx4a65c_init_da8c8 8 = .ok (.putfield 9, 3) := by decide +kernel
theorem dJx4a65c_init_da8c8_11 : decode cJx4a65c_init_da8c8 11 = .ok (.return_, 1) := by decide +kernel
theorem dJx4a65c_grow_92f84_0 : decode cJx4a65c_grow_92f84 0 = .ok (.aload_n 0, 1) := by decide +kernel
theorem dJx4a65c_grow_92f84_1 : decode cJx4a65c_grow_92f84 1 = .ok (.getfield 9, 3) := by decide +kernel
theorem dJx4a65c_grow_92f84_4 : decode cJx4a65c_grow_92f84 4 = .ok (.arraylength, 1) := by decide +kernel
theorem dJx4a65c_grow_92f84_5 : decode cJx4a65c_grow_92f84 5 = .ok (.istore_n 2, 1) := by decide +kernel
theorem dJx4a65c_grow_92f84_6 : decode cJx4a65c_grow_92f84 6 = .ok (.iload_n 2, 1) := by decide +kernel
theorem dJx4a65c_grow_92f84_7 : decode cJx4a65c_grow_92f84 7 = .ok (.ifCond .gt 13, 3) := by decide +kernel
theorem dJx4a65c_grow_92f84_10 : decode cJx4a65c_grow_92f84 10 = .ok (.aload_n 0, 1) := by decide +kernel
theorem dJx4a65c_grow_92f84_11 : decode cJx4a65c_grow_92f84 11 = .ok (.getfield 9, 3) := by decide +kernel
theorem dJx4a65c_grow_92f84_14 : decode cJx4a65c_grow_92f84 14 = .ok (.getstatic 39, 3) := by decide +kernel
theorem dJx4a65c_grow_92f84_17 : decode cJx4a65c_grow_92f84 17 = .ok (.if_acmp .eq 28, 3) := by decide +kernel
theorem dJx4a65c_grow_92f84_20 : decode cJx4a65c_grow_92f84 20 = .ok (.iload_n 2, 1) := by decide +kernel
theorem dJx4a65c_grow_92f84_21 : decode cJx4a65c_grow_92f84 21 = .ok (.iload_n 1, 1) := by decide +kernel
theorem dJx4a65c_grow_92f84_22 : decode cJx4a65c_grow_92f84 22 = .ok (.iload_n 2, 1) := by decide +kernel
theorem dJx4a65c_grow_92f84_23 : decode cJx4a65c_grow_92f84 23 = .ok (.isub, 1) := by decide +kernel
theorem dJx4a65c_grow_92f84_24 : decode cJx4a65c_grow_92f84 24 = .ok (.iload_n 2, 1) := by decide +kernel
theorem dJx4a65c_grow_92f84_25 : decode cJx4a65c_grow_92f84 25 = .ok (.iconst 1, 1) := by decide +kernel
theorem dJx4a65c_grow_92f84_26 : decode cJx4a65c_grow_92f84 26 = .ok (.ishr, 1) := by decide +kernel
theorem dJx4a65c_grow_92f84_27 : decode cJx4a65c_grow_92f84 27 = .ok (.invokestatic 73, 3) := by decide +kernel
theorem dJx4a65c_grow_92f84_30 : decode cJx4a65c_grow_92f84 30 = .ok (.istore_n 3, 1) := by decide +kernel
theorem dJx4a65c_grow_92f84_31 : decode cJx4a65c_grow_92f84 31 = .ok (.aload_n 0, 1) := by decide +kernel
theorem dJx4a65c_grow_92f84_32 : decode cJx4a65c_grow_92f84 32 = .ok (.aload_n 0, 1) := by decide +kernel
theorem dJx4a65c_grow_92f84_33 : decode cJx4a65c_grow_92f84 33 = .ok (.getfield 9, 3) := by decide +kernel
theorem dJx4a65c_grow_92f84_36 : decode cJx4a65c_grow_92f84 36 = .ok (.iload_n 3, 1) := by decide +kernel
theorem dJx4a65c_grow_92f84_37 : decode cJx4a65c_grow_92f84 37 = .ok (.invokestatic 66, 3) := by decide +kernel
theorem dJx4a65c_grow_92f84_40 : decode cJx4a65c_grow_92f84 40 = .ok (.dup_x1, 1) := by decide +kernel
theorem dJx4a65c_grow_92f84_41 : decode cJx4a65c_grow_92f84 41 = .ok (.putfield 9, 3) := by decide +kernel
theorem dJx4a65c_grow_92f84_44 : decode cJx4a65c_grow_92f84 44 = .ok (.areturn, 1) := by decide +kernel
theorem dJx4a65c_grow_92f84_45 : decode cJx4a65c_grow_92f84 45 = .ok (.aload_n 0, 1) := by decide +kernel
theorem dJx4a65c_grow_92f84_46 : decode cJx4a65c_grow_92f84 46 = .ok (.bipush 10, 2) := by decide +kernel
theorem dJx4a65c_grow_92f84_48 : decode cJx4a65c_grow_92f84 48 = .ok (.iload_n 1, 1) := by decide +kernel
theorem dJx4a65c_grow_92f84_49 : decode cJx4a65c_grow_92f84 49 = .ok (.invokestatic 79, 3) := by decide +kernel
theorem dJx4a65c_grow_92f84_52 : decode cJx4a65c_grow_92f84 52 = .ok (.anewarray 7, 3) := by decide +kernel
theorem dJx4a65c_grow_92f84_55 : decode cJx4a65c_grow_92f84 55 = .ok (.dup_x1, 1) := by decide +kernel
theorem dJx4a65c_grow_92f84_56 : decode cJx4a65c_grow_92f84 56 = .ok (.putfield 9, 3) := by decide +kernel
theorem dJx4a65c_grow_92f84_59 : decode cJx4a65c_grow_92f84 59 = .ok (.areturn, 1) := by decide +kernel
theorem dJx4a65c_grow_d5877_0 : decode cJx4a65c_grow_d5877 0 = .ok (.aload_n 0, 1) := by decide +kernel
theorem dJx4a65c_grow_d5877_1 : decode cJx4a65c_grow_d5877 1 = .ok (.aload_n 0, 1) := by decide +kernel
theorem dJx4a65c_grow_d5877_2 : decode cJx4a65c_grow_d5877 2 = .ok (.getfield 48, 3) := by decide +kernel
theorem dJx4a65c_grow_d5877_5 : decode cJx4a65c_grow_d5877 5 = .ok (.iconst 1, 1) := by decide +kernel
theorem dJx4a65c_grow_d5877_6 : decode cJx4a65c_grow_d5877 6 = .ok (.iadd, 1) := by decide +kernel
theorem dJx4a65c_grow_d5877_7 : decode cJx4a65c_grow_d5877 7 = .ok (.invokevirtual 69, 3) := by decide +kernel
theorem dJx4a65c_grow_d5877_10 : decode cJx4a65c_grow_d5877 10 = .ok (.areturn, 1) := by decide +kernel
theorem dJx4a65c_size_8abf5_0 : decode cJx4a65c_size_8abf5 0 = .ok (.aload_n 0, 1) := by decide +kernel
theorem dJx4a65c_size_8abf5_1 : decode cJx4a65c_size_8abf5 1 = .ok (.getfield 48, 3) := by decide +kernel
theorem dJx4a65c_size_8abf5_4 : decode cJx4a65c_size_8abf5 4 = .ok (.ireturn, 1) := by decide +kernel
theorem dJx4a65c_elementData_915e3_0 : decode cJx4a65c_elementData_915e3 0 = .ok (.aload_n 0, 1) := by decide +kernel
theorem dJx4a65c_elementData_915e3_1 : decode cJx4a65c_elementData_915e3 1 = .ok (.getfield 9, 3) := by decide +kernel
theorem dJx4a65c_elementData_915e3_4 : decode cJx4a65c_elementData_915e3 4 = .ok (.iload_n 1, 1) := by decide +kernel
theorem dJx4a65c_elementData_915e3_5 : decode cJx4a65c_elementData_915e3 5 = .ok (.aaload, 1) := by decide +kernel
theorem dJx4a65c_elementData_915e3_6 : decode cJx4a65c_elementData_915e3 6 = .ok (.areturn, 1) := by decide +kernel
theorem dJx4a65c_get_915e3_0 : decode cJx4a65c_get_915e3 0 = .ok (.iload_n 1, 1) := by decide +kernel
theorem dJx4a65c_get_915e3_1 : decode cJx4a65c_get_915e3 1 = .ok (.aload_n 0, 1) := by decide +kernel
theorem dJx4a65c_get_915e3_2 : decode cJx4a65c_get_915e3 2 = .ok (.getfield 48, 3) := by decide +kernel
theorem dJx4a65c_get_915e3_5 : decode cJx4a65c_get_915e3 5 = .ok (.invokestatic 118, 3) := by decide +kernel
theorem dJx4a65c_get_915e3_8 : decode cJx4a65c_get_915e3 8 = .ok (.pop, 1) := by decide +kernel
theorem dJx4a65c_get_915e3_9 : decode cJx4a65c_get_915e3 9 = .ok (.aload_n 0, 1) := by decide +kernel
theorem dJx4a65c_get_915e3_10 : decode cJx4a65c_get_915e3 10 = .ok (.iload_n 1, 1) := by decide +kernel
theorem dJx4a65c_get_915e3_11 : decode cJx4a65c_get_915e3 11 = .ok (.invokevirtual 123, 3) := by decide +kernel
theorem dJx4a65c_get_915e3_14 : decode cJx4a65c_get_915e3 14 = .ok (.areturn, 1) := by decide +kernel
theorem dJx4a65c_add_72be8_0 : decode cJx4a65c_add_72be8 0 = .ok (.iload_n 3, 1) := by decide +kernel
theorem dJx4a65c_add_72be8_1 : decode cJx4a65c_add_72be8 1 = .ok (.aload_n 2, 1) := by decide +kernel
theorem dJx4a65c_add_72be8_2 : decode cJx4a65c_add_72be8 2 = .ok (.arraylength, 1) := by decide +kernel
theorem dJx4a65c_add_72be8_3 : decode cJx4a65c_add_72be8 3 = .ok (.if_icmp .ne 8, 3) := by decide +kernel
theorem dJx4a65c_add_72be8_6 : decode cJx4a65c_add_72be8 6 = .ok (.aload_n 0, 1) := by decide +kernel
theorem dJx4a65c_add_72be8_7 : decode cJx4a65c_add_72be8 7 = .ok (.invokevirtual 129, 3) := by decide +kernel
theorem dJx4a65c_add_72be8_10 : decode cJx4a65c_add_72be8 10 = .ok (.astore_n 2, 1) := by decide +kernel
theorem dJx4a65c_add_72be8_11 : decode cJx4a65c_add_72be8 11 = .ok (.aload_n 2, 1) := by decide +kernel
theorem dJx4a65c_add_72be8_12 : decode cJx4a65c_add_72be8 12 = .ok (.iload_n 3, 1) := by decide +kernel
theorem dJx4a65c_add_72be8_13 : decode cJx4a65c_add_72be8 13 = .ok (.aload_n 1, 1) := by decide +kernel
theorem dJx4a65c_add_72be8_14 : decode cJx4a65c_add_72be8 14 = .ok (.aastore, 1) := by decide +kernel
theorem dJx4a65c_add_72be8_15 : decode cJx4a65c_add_72be8 15 = .ok (.aload_n 0, 1) := by decide +kernel
theorem dJx4a65c_add_72be8_16 : decode cJx4a65c_add_72be8 16 = .ok (.iload_n 3, 1) := by decide +kernel
theorem dJx4a65c_add_72be8_17 : decode cJx4a65c_add_72be8 17 = .ok (.iconst 1, 1) := by decide +kernel
theorem dJx4a65c_add_72be8_18 : decode cJx4a65c_add_72be8 18 = .ok (.iadd, 1) := by decide +kernel
theorem dJx4a65c_add_72be8_19 : decode cJx4a65c_add_72be8 19 = .ok (.putfield 48, 3) := by decide +kernel
theorem dJx4a65c_add_72be8_22 : decode cJx4a65c_add_72be8 22 = .ok (.return_, 1) := by decide +kernel
theorem dJx4a65c_add_9ea2d_0 : decode cJx4a65c_add_9ea2d 0 = .ok (.aload_n 0, 1) := by decide +kernel
theorem dJx4a65c_add_9ea2d_1 : decode cJx4a65c_add_9ea2d 1 = .ok (.dup, 1) := by decide +kernel
theorem dJx4a65c_add_9ea2d_2 : decode cJx4a65c_add_9ea2d 2 = .ok (.getfield 63, 3) := by decide +kernel
theorem dJx4a65c_add_9ea2d_5 : decode cJx4a65c_add_9ea2d 5 = .ok (.iconst 1, 1) := by decide +kernel
theorem dJx4a65c_add_9ea2d_6 : decode cJx4a65c_add_9ea2d 6 = .ok (.iadd, 1) := by decide +kernel
theorem dJx4a65c_add_9ea2d_7 : decode cJx4a65c_add_9ea2d 7 = .ok (.putfield 63, 3) := by decide +kernel
theorem dJx4a65c_add_9ea2d_10 : decode cJx4a65c_add_9ea2d 10 = .ok (.aload_n 0, 1) := by decide +kernel
theorem dJx4a65c_add_9ea2d_11 : decode cJx4a65c_add_9ea2d 11 = .ok (.aload_n 1, 1) := by decide +kernel
theorem dJx4a65c_add_9ea2d_12 : decode cJx4a65c_add_9ea2d 12 = .ok (.aload_n 0, 1) := by decide +kernel
theorem dJx4a65c_add_9ea2d_13 : decode cJx4a65c_add_9ea2d 13 = .ok (.getfield 9, 3) := by decide +kernel
theorem dJx4a65c_add_9ea2d_16 : decode cJx4a65c_add_9ea2d 16 = .ok (.aload_n 0, 1) := by decide +kernel
theorem dJx4a65c_add_9ea2d_17 : decode cJx4a65c_add_9ea2d 17 = .ok (.getfield 48, 3) := by decide +kernel
theorem dJx4a65c_add_9ea2d_20 : decode cJx4a65c_add_9ea2d 20 = .ok (.invokevirtual 131, 3) := by decide +kernel
theorem dJx4a65c_add_9ea2d_23 : decode cJx4a65c_add_9ea2d 23 = .ok (.iconst 1, 1) := by decide +kernel
theorem dJx4a65c_add_9ea2d_24 : decode cJx4a65c_add_9ea2d 24 = .ok (.ireturn, 1) := by decide +kernel
theorem dJx4a65c_clear_da8c8_0 : decode cJx4a65c_clear_da8c8 0 = .ok (.aload_n 0, 1) := by decide +kernel
theorem dJx4a65c_clear_da8c8_1 : decode cJx4a65c_clear_da8c8 1 = .ok (.dup, 1) := by decide +kernel
theorem dJx4a65c_clear_da8c8_2 : decode cJx4a65c_clear_da8c8 2 = .ok (.getfield 63, 3) := by decide +kernel
theorem dJx4a65c_clear_da8c8_5 : decode cJx4a65c_clear_da8c8 5 = .ok (.iconst 1, 1) := by decide +kernel
theorem dJx4a65c_clear_da8c8_6 : decode cJx4a65c_clear_da8c8 6 = .ok (.iadd, 1) := by decide +kernel
theorem dJx4a65c_clear_da8c8_7 : decode cJx4a65c_clear_da8c8 7 = .ok (.putfield 63, 3) := by decide +kernel
theorem dJx4a65c_clear_da8c8_10 : decode cJx4a65c_clear_da8c8 10 = .ok (.aload_n 0, 1) := by decide +kernel
theorem dJx4a65c_clear_da8c8_11 : decode cJx4a65c_clear_da8c8 11 = .ok (.getfield 9, 3) := by decide +kernel
theorem dJx4a65c_clear_da8c8_14 : decode cJx4a65c_clear_da8c8 14 = .ok (.astore_n 1, 1) := by decide +kernel
theorem dJx4a65c_clear_da8c8_15 : decode cJx4a65c_clear_da8c8 15 = .ok (.aload_n 0, 1) := by decide +kernel
theorem dJx4a65c_clear_da8c8_16 : decode cJx4a65c_clear_da8c8 16 = .ok (.getfield 48, 3) := by decide +kernel
theorem dJx4a65c_clear_da8c8_19 : decode cJx4a65c_clear_da8c8 19 = .ok (.istore_n 2, 1) := by decide +kernel
theorem dJx4a65c_clear_da8c8_20 : decode cJx4a65c_clear_da8c8 20 = .ok (.aload_n 0, 1) := by decide +kernel
theorem dJx4a65c_clear_da8c8_21 : decode cJx4a65c_clear_da8c8 21 = .ok (.iconst 0, 1) := by decide +kernel
theorem dJx4a65c_clear_da8c8_22 : decode cJx4a65c_clear_da8c8 22 = .ok (.dup_x1, 1) := by decide +kernel
theorem dJx4a65c_clear_da8c8_23 : decode cJx4a65c_clear_da8c8 23 = .ok (.putfield 48, 3) := by decide +kernel
theorem dJx4a65c_clear_da8c8_26 : decode cJx4a65c_clear_da8c8 26 = .ok (.istore_n 3, 1) := by decide +kernel
theorem dJx4a65c_clear_da8c8_27 : decode cJx4a65c_clear_da8c8 27 = .ok (.iload_n 3, 1) := by decide +kernel
theorem dJx4a65c_clear_da8c8_28 : decode cJx4a65c_clear_da8c8 28 = .ok (.iload_n 2, 1) := by decide +kernel
theorem dJx4a65c_clear_da8c8_29 : decode cJx4a65c_clear_da8c8 29 = .ok (.if_icmp .ge 13, 3) := by decide +kernel
theorem dJx4a65c_clear_da8c8_32 : decode cJx4a65c_clear_da8c8 32 = .ok (.aload_n 1, 1) := by decide +kernel
theorem dJx4a65c_clear_da8c8_33 : decode cJx4a65c_clear_da8c8 33 = .ok (.iload_n 3, 1) := by decide +kernel
theorem dJx4a65c_clear_da8c8_34 : decode cJx4a65c_clear_da8c8 34 = .ok (.aconst_null, 1) := by decide +kernel
theorem dJx4a65c_clear_da8c8_35 : decode cJx4a65c_clear_da8c8 35 = .ok (.aastore, 1) := by decide +kernel
theorem dJx4a65c_clear_da8c8_36 : decode cJx4a65c_clear_da8c8 36 = .ok (.iinc 3 1, 3) := by decide +kernel
theorem dJx4a65c_clear_da8c8_39 : decode cJx4a65c_clear_da8c8 39 = .ok (.goto (-12), 3) := by decide +kernel
theorem dJx4a65c_clear_da8c8_42 : decode cJx4a65c_clear_da8c8 42 = .ok (.return_, 1) := by decide +kernel
theorem dJ7_copyOf_1904c_0 : decode cJ7_copyOf_1904c 0 = .ok (.aload_n 0, 1) := by decide +kernel
theorem dJ7_copyOf_1904c_1 : decode cJ7_copyOf_1904c 1 = .ok (.iload_n 1, 1) := by decide +kernel
theorem dJ7_copyOf_1904c_2 : decode cJ7_copyOf_1904c 2 = .ok (.aload_n 0, 1) := by decide +kernel
theorem dJ7_copyOf_1904c_3 : decode cJ7_copyOf_1904c 3 = .ok (.invokevirtual 86, 3) := by decide +kernel
theorem dJ7_copyOf_1904c_6 : decode cJ7_copyOf_1904c 6 = .ok (.invokestatic 300, 3) := by decide +kernel
theorem dJ7_copyOf_1904c_9 : decode cJ7_copyOf_1904c 9 = .ok (.areturn, 1) := by decide +kernel
theorem dJ7_copyOf_6403c_0 : decode cJ7_copyOf_6403c 0 = .ok (.aload_n 2, 1) := by decide +kernel
theorem dJ7_copyOf_6403c_1 : decode cJ7_copyOf_6403c 1 = .ok (.ldc 110, 2) := by decide +kernel
theorem dJ7_copyOf_6403c_3 : decode cJ7_copyOf_6403c 3 = .ok (.if_acmp .ne 10, 3) := by decide +kernel
theorem dJ7_copyOf_6403c_6 : decode cJ7_copyOf_6403c 6 = .ok (.iload_n 1, 1) := by decide +kernel
theorem dJ7_copyOf_6403c_7 : decode cJ7_copyOf_6403c 7 = .ok (.anewarray 2, 3) := by decide +kernel
theorem dJ7_copyOf_6403c_10 : decode cJ7_copyOf_6403c 10 = .ok (.goto 14, 3) := by decide +kernel
theorem dJ7_copyOf_6403c_13 : decode cJ7_copyOf_6403c 13 = .ok (.aload_n 2, 1) := by decide +kernel
theorem dJ7_copyOf_6403c_14 : decode cJ7_copyOf_6403c 14 = .ok (.invokevirtual 90, 3) := by decide +kernel
theorem dJ7_copyOf_6403c_17 : decode cJ7_copyOf_6403c 17 = .ok (.iload_n 1, 1) := by decide +kernel
theorem dJ7_copyOf_6403c_18 : decode cJ7_copyOf_6403c 18 = .ok (.invokestatic 95, 3) := by decide +kernel
theorem dJ7_copyOf_6403c_21 : decode cJ7_copyOf_6403c 21 = .ok (.checkcast 110, 3) := by decide +kernel
theorem dJ7_copyOf_6403c_24 : decode cJ7_copyOf_6403c 24 = .ok (.astore_n 3, 1) := by decide +kernel
theorem dJ7_copyOf_6403c_25 : decode cJ7_copyOf_6403c 25 = .ok (.aload_n 0, 1) := by decide +kernel
theorem dJ7_copyOf_6403c_26 : decode cJ7_copyOf_6403c 26 = .ok (.iconst 0, 1) := by decide +kernel
theorem dJ7_copyOf_6403c_27 : decode cJ7_copyOf_6403c 27 = .ok (.aload_n 3, 1) := by decide +kernel
theorem dJ7_copyOf_6403c_28 : decode cJ7_copyOf_6403c 28 = .ok (.iconst 0, 1) := by decide +kernel
theorem dJ7_copyOf_6403c_29 : decode cJ7_copyOf_6403c 29 = .ok (.aload_n 0, 1) := by decide +kernel
theorem dJ7_copyOf_6403c_30 : decode cJ7_copyOf_6403c 30 = .ok (.arraylength, 1) := by decide +kernel
theorem dJ7_copyOf_6403c_31 : decode cJ7_copyOf_6403c 31 = .ok (.iload_n 1, 1) := by decide +kernel
theorem dJ7_copyOf_6403c_32 : decode cJ7_copyOf_6403c 32 = .ok (.invokestatic 304, 3) := by decide +kernel
theorem dJ7_copyOf_6403c_35 : decode cJ7_copyOf_6403c 35 = .ok (.invokestatic 150, 3) := by decide +kernel
theorem dJ7_copyOf_6403c_38 : decode cJ7_copyOf_6403c 38 = .ok (.aload_n 3, 1) := by decide +kernel
theorem dJ7_copyOf_6403c_39 : decode cJ7_copyOf_6403c 39 = .ok (.areturn, 1) := by decide +kernel
theorem dJ15_checkIndex_7cf53_0 : decode cJ15_checkIndex_7cf53 0 = .ok (.iload_n 0, 1) := by decide +kernel
theorem dJ15_checkIndex_7cf53_1 : decode cJ15_checkIndex_7cf53 1 = .ok (.iload_n 1, 1) := by decide +kernel
theorem dJ15_checkIndex_7cf53_2 : decode cJ15_checkIndex_7cf53 2 = .ok (.aconst_null, 1) := by decide +kernel
theorem dJ15_checkIndex_7cf53_3 : decode cJ15_checkIndex_7cf53 3 = .ok (.invokestatic 105, 3) := by decide +kernel
theorem dJ15_checkIndex_7cf53_6 : decode cJ15_checkIndex_7cf53 6 = .ok (.ireturn, 1) := by decide +kernel
theorem dJ8_newLength_cabcc_0 : decode cJ8_newLength_cabcc 0 = .ok (.iload_n 0, 1) := by decide +kernel
theorem dJ8_newLength_cabcc_1 : decode cJ8_newLength_cabcc 1 = .ok (.iload_n 1, 1) := by decide +kernel
theorem dJ8_newLength_cabcc_2 : decode cJ8_newLength_cabcc 2 = .ok (.iload_n 2, 1) := by decide +kernel
theorem dJ8_newLength_cabcc_3 : decode cJ8_newLength_cabcc 3 = .ok (.invokestatic 194, 3) := by decide +kernel
theorem dJ8_newLength_cabcc_6 : decode cJ8_newLength_cabcc 6 = .ok (.iadd, 1) := by decide +kernel
theorem dJ8_newLength_cabcc_7 : decode cJ8_newLength_cabcc 7 = .ok (.istore_n 3, 1) := by decide +kernel
theorem dJ8_newLength_cabcc_8 : decode cJ8_newLength_cabcc 8 = .ok (.iconst 0, 1) := by decide +kernel
theorem dJ8_newLength_cabcc_9 : decode cJ8_newLength_cabcc 9 = .ok (.iload_n 3, 1) := by decide +kernel
theorem dJ8_newLength_cabcc_10 : decode cJ8_newLength_cabcc 10 = .ok (.if_icmp .ge 11, 3) := by decide +kernel
theorem dJ8_newLength_cabcc_13 : decode cJ8_newLength_cabcc 13 = .ok (.iload_n 3, 1) := by decide +kernel
theorem dJ8_newLength_cabcc_14 : decode cJ8_newLength_cabcc 14 = .ok (.ldc 200, 2) := by decide +kernel
end
section
theorem dJ8_newLength_cabcc_16 : decode cJ8_newLength_cabcc 16 = .ok (.if_icmp .gt 5, 3) := by decide +kernel
theorem dJ8_newLength_cabcc_19 : decode cJ8_newLength_cabcc 19 = .ok (.iload_n 3, 1) := by decide +kernel
theorem dJ8_newLength_cabcc_20 : decode cJ8_newLength_cabcc 20 = .ok (.ireturn, 1) := by decide +kernel
theorem dJ8_newLength_cabcc_21 : decode cJ8_newLength_cabcc 21 = .ok (.iload_n 0, 1) := by decide +kernel
theorem dJ8_newLength_cabcc_22 : decode cJ8_newLength_cabcc 22 = .ok (.iload_n 1, 1) := by decide +kernel
theorem dJ8_newLength_cabcc_23 : decode cJ8_newLength_cabcc 23 = .ok (.invokestatic 201, 3) := by decide +kernel
theorem dJ8_newLength_cabcc_26 : decode cJ8_newLength_cabcc 26 = .ok (.ireturn, 1) := by decide +kernel
theorem dJ8_hugeLength_7cf53_0 : decode cJ8_hugeLength_7cf53 0 = .ok (.iload_n 0, 1) := by decide +kernel
theorem dJ8_hugeLength_7cf53_1 : decode cJ8_hugeLength_7cf53 1 = .ok (.iload_n 1, 1) := by decide +kernel
theorem dJ8_hugeLength_7cf53_2 : decode cJ8_hugeLength_7cf53 2 = .ok (.iadd, 1) := by decide +kernel
theorem dJ8_hugeLength_7cf53_3 : decode cJ8_hugeLength_7cf53 3 = .ok (.istore_n 2, 1) := by decide +kernel
theorem dJ8_hugeLength_7cf53_4 : decode cJ8_hugeLength_7cf53 4 = .ok (.iload_n 2, 1) := by decide +kernel
theorem dJ8_hugeLength_7cf53_5 : decode cJ8_hugeLength_7cf53 5 = .ok (.ifCond .ge 44, 3) := by decide +kernel
theorem dJ8_hugeLength_7cf53_8 : decode cJ8_hugeLength_7cf53 8 = .ok (.new 204, 3) := by decide +kernel
theorem dJ8_hugeLength_7cf53_11 : decode cJ8_hugeLength_7cf53 11 = .ok (.dup, 1) := by decide +kernel
theorem dJ8_hugeLength_7cf53_12 : decode cJ8_hugeLength_7cf53 12 = .ok (.new 89, 3) := by decide +kernel
theorem dJ8_hugeLength_7cf53_15 : decode cJ8_hugeLength_7cf53 15 = .ok (.dup, 1) := by decide +kernel
theorem dJ8_hugeLength_7cf53_16 : decode cJ8_hugeLength_7cf53 16 = .ok (.invokespecial 91, 3) := by decide +kernel
theorem dJ8_hugeLength_7cf53_19 : decode cJ8_hugeLength_7cf53 19 = .ok (.ldc 206, 2) := by decide +kernel
theorem dJ8_hugeLength_7cf53_21 : decode cJ8_hugeLength_7cf53 21 = .ok (.invokevirtual 94, 3) := by decide +kernel
theorem dJ8_hugeLength_7cf53_24 : decode cJ8_hugeLength_7cf53 24 = .ok (.iload_n 0, 1) := by decide +kernel
theorem dJ8_hugeLength_7cf53_25 : decode cJ8_hugeLength_7cf53 25 = .ok (.invokevirtual 98, 3) := by decide +kernel
theorem dJ8_hugeLength_7cf53_28 : decode cJ8_hugeLength_7cf53 28 = .ok (.ldc 208, 2) := by decide +kernel
theorem dJ8_hugeLength_7cf53_30 : decode cJ8_hugeLength_7cf53 30 = .ok (.invokevirtual 94, 3) := by decide +kernel
theorem dJ8_hugeLength_7cf53_33 : decode cJ8_hugeLength_7cf53 33 = .ok (.iload_n 1, 1) := by decide +kernel
theorem dJ8_hugeLength_7cf53_34 : decode cJ8_hugeLength_7cf53 34 = .ok (.invokevirtual 98, 3) := by decide +kernel
theorem dJ8_hugeLength_7cf53_37 : decode cJ8_hugeLength_7cf53 37 = .ok (.ldc 210, 2) := by decide +kernel
theorem dJ8_hugeLength_7cf53_39 : decode cJ8_hugeLength_7cf53 39 = .ok (.invokevirtual 94, 3) := by decide +kernel
theorem dJ8_hugeLength_7cf53_42 : decode cJ8_hugeLength_7cf53 42 = .ok (.invokevirtual 101, 3) := by decide +kernel
theorem dJ8_hugeLength_7cf53_45 : decode cJ8_hugeLength_7cf53 45 = .ok (.invokespecial 212, 3) := by decide +kernel
theorem dJ8_hugeLength_7cf53_48 : decode cJ8_hugeLength_7cf53 48 = .ok (.athrow, 1) := by decide +kernel
theorem dJ8_hugeLength_7cf53_49 : decode cJ8_hugeLength_7cf53 49 = .ok (.iload_n 2, 1) := by decide +kernel
theorem dJ8_hugeLength_7cf53_50 : decode cJ8_hugeLength_7cf53 50 = .ok (.ldc 200, 2) := by decide +kernel
theorem dJ8_hugeLength_7cf53_52 : decode cJ8_hugeLength_7cf53 52 = .ok (.if_icmp .gt 6, 3) := by decide +kernel
theorem dJ8_hugeLength_7cf53_55 : decode cJ8_hugeLength_7cf53 55 = .ok (.ldc 200, 2) := by decide +kernel
theorem dJ8_hugeLength_7cf53_57 : decode cJ8_hugeLength_7cf53 57 = .ok (.ireturn, 1) := by decide +kernel
theorem dJ8_hugeLength_7cf53_58 : decode cJ8_hugeLength_7cf53 58 = .ok (.iload_n 2, 1) := by decide +kernel
theorem dJ8_hugeLength_7cf53_59 : decode cJ8_hugeLength_7cf53 59 = .ok (.ireturn, 1) := by decide +kernel
theorem dJ3_checkIndex_8e157_0 : decode cJ3_checkIndex_8e157 0 = .ok (.iload_n 0, 1) := by decide +kernel
theorem dJ3_checkIndex_8e157_1 : decode cJ3_checkIndex_8e157 1 = .ok (.ifCond .lt 8, 3) := by decide +kernel
theorem dJ3_checkIndex_8e157_4 : decode cJ3_checkIndex_8e157 4 = .ok (.iload_n 0, 1) := by decide +kernel
theorem dJ3_checkIndex_8e157_5 : decode cJ3_checkIndex_8e157 5 = .ok (.iload_n 1, 1) := by decide +kernel
theorem dJ3_checkIndex_8e157_6 : decode cJ3_checkIndex_8e157 6 = .ok (.if_icmp .lt 10, 3) := by decide +kernel
theorem dJ3_checkIndex_8e157_9 : decode cJ3_checkIndex_8e157 9 = .ok (.aload_n 2, 1) := by decide +kernel
theorem dJ3_checkIndex_8e157_10 : decode cJ3_checkIndex_8e157 10 = .ok (.iload_n 0, 1) := by decide +kernel
theorem dJ3_checkIndex_8e157_11 : decode cJ3_checkIndex_8e157 11 = .ok (.iload_n 1, 1) := by decide +kernel
theorem dJ3_checkIndex_8e157_12 : decode cJ3_checkIndex_8e157 12 = .ok (.invokestatic 95, 3) := by decide +kernel
theorem dJ3_checkIndex_8e157_15 : decode cJ3_checkIndex_8e157 15 = .ok (.athrow, 1) := by decide +kernel
theorem dJ3_checkIndex_8e157_16 : decode cJ3_checkIndex_8e157 16 = .ok (.iload_n 0, 1) := by decide +kernel
theorem dJ3_checkIndex_8e157_17 : decode cJ3_checkIndex_8e157 17 = .ok (.ireturn, 1) := by decide +kernel
theorem dL_law_0 : decode cL_law 0 = .ok (.new 7, 3) := by decide +kernel
theorem dL_law_3 : decode cL_law 3 = .ok (.dup, 1) := by decide +kernel
theorem dL_law_4 : decode cL_law 4 = .ok (.invokespecial 9, 3) := by decide +kernel
theorem dL_law_7 : decode cL_law 7 = .ok (.astore_n 1, 1) := by decide +kernel
theorem dL_law_8 : decode cL_law 8 = .ok (.new 10, 3) := by decide +kernel
theorem dL_law_11 : decode cL_law 11 = .ok (.dup, 1) := by decide +kernel
theorem dL_law_12 : decode cL_law 12 = .ok (.invokespecial 12, 3) := by decide +kernel
theorem dL_law_15 : decode cL_law 15 = .ok (.astore_n 2, 1) := by decide +kernel
theorem dL_law_16 : decode cL_law 16 = .ok (.iconst 0, 1) := by decide +kernel
theorem dL_law_17 : decode cL_law 17 = .ok (.istore_n 3, 1) := by decide +kernel
theorem dL_law_18 : decode cL_law 18 = .ok (.iload_n 3, 1) := by decide +kernel
theorem dL_law_19 : decode cL_law 19 = .ok (.aload_n 0, 1) := by decide +kernel
theorem dL_law_20 : decode cL_law 20 = .ok (.arraylength, 1) := by decide +kernel
theorem dL_law_21 : decode cL_law 21 = .ok (.iconst 5, 1) := by decide +kernel
theorem dL_law_22 : decode cL_law 22 = .ok (.isub, 1) := by decide +kernel
theorem dL_law_23 : decode cL_law 23 = .ok (.if_icmp .gt 360, 3) := by decide +kernel
theorem dL_law_26 : decode cL_law 26 = .ok (.aload_n 0, 1) := by decide +kernel
theorem dL_law_27 : decode cL_law 27 = .ok (.iload_n 3, 1) := by decide +kernel
theorem dL_law_28 : decode cL_law 28 = .ok (.iaload, 1) := by decide +kernel
theorem dL_law_29 : decode cL_law 29 = .ok (.bipush 15, 2) := by decide +kernel
theorem dL_law_31 : decode cL_law 31 = .ok (.iand, 1) := by decide +kernel
theorem dL_law_32 : decode cL_law 32 = .ok (.tableswitch 345 0 9 #[56, 109, 162, 205, 238, 262, 295, 308, 321, 334], 56) := by decide +kernel
theorem dL_law_88 : decode cL_law 88 = .ok (.aload_n 1, 1) := by decide +kernel
theorem dL_law_89 : decode cL_law 89 = .ok (.aload_n 0, 1) := by decide +kernel
theorem dL_law_90 : decode cL_law 90 = .ok (.iload_n 3, 1) := by decide +kernel
theorem dL_law_91 : decode cL_law 91 = .ok (.iconst 1, 1) := by decide +kernel
theorem dL_law_92 : decode cL_law 92 = .ok (.iadd, 1) := by decide +kernel
theorem dL_law_93 : decode cL_law 93 = .ok (.iaload, 1) := by decide +kernel
theorem dL_law_94 : decode cL_law 94 = .ok (.i2l, 1) := by decide +kernel
theorem dL_law_95 : decode cL_law 95 = .ok (.bipush 32, 2) := by decide +kernel
theorem dL_law_97 : decode cL_law 97 = .ok (.lshl, 1) := by decide +kernel
theorem dL_law_98 : decode cL_law 98 = .ok (.aload_n 0, 1) := by decide +kernel
theorem dL_law_99 : decode cL_law 99 = .ok (.iload_n 3, 1) := by decide +kernel
theorem dL_law_100 : decode cL_law 100 = .ok (.iconst 2, 1) := by decide +kernel
theorem dL_law_101 : decode cL_law 101 = .ok (.iadd, 1) := by decide +kernel
theorem dL_law_102 : decode cL_law 102 = .ok (.iaload, 1) := by decide +kernel
theorem dL_law_103 : decode cL_law 103 = .ok (.i2l, 1) := by decide +kernel
theorem dL_law_104 : decode cL_law 104 = .ok (.ldc2_w 13, 3) := by decide +kernel
theorem dL_law_107 : decode cL_law 107 = .ok (.land, 1) := by decide +kernel
theorem dL_law_108 : decode cL_law 108 = .ok (.lor, 1) := by decide +kernel
theorem dL_law_109 : decode cL_law 109 = .ok (.invokevirtual 15, 3) := by decide +kernel
theorem dL_law_112 : decode cL_law 112 = .ok (.aload_n 2, 1) := by decide +kernel
theorem dL_law_113 : decode cL_law 113 = .ok (.aload_n 0, 1) := by decide +kernel
theorem dL_law_114 : decode cL_law 114 = .ok (.iload_n 3, 1) := by decide +kernel
theorem dL_law_115 : decode cL_law 115 = .ok (.iconst 1, 1) := by decide +kernel
theorem dL_law_116 : decode cL_law 116 = .ok (.iadd, 1) := by decide +kernel
theorem dL_law_117 : decode cL_law 117 = .ok (.iaload, 1) := by decide +kernel
theorem dL_law_118 : decode cL_law 118 = .ok (.i2l, 1) := by decide +kernel
theorem dL_law_119 : decode cL_law 119 = .ok (.bipush 32, 2) := by decide +kernel
theorem dL_law_121 : decode cL_law 121 = .ok (.lshl, 1) := by decide +kernel
theorem dL_law_122 : decode cL_law 122 = .ok (.aload_n 0, 1) := by decide +kernel
theorem dL_law_123 : decode cL_law 123 = .ok (.iload_n 3, 1) := by decide +kernel
theorem dL_law_124 : decode cL_law 124 = .ok (.iconst 2, 1) := by decide +kernel
theorem dL_law_125 : decode cL_law 125 = .ok (.iadd, 1) := by decide +kernel
theorem dL_law_126 : decode cL_law 126 = .ok (.iaload, 1) := by decide +kernel
theorem dL_law_127 : decode cL_law 127 = .ok (.i2l, 1) := by decide +kernel
theorem dL_law_128 : decode cL_law 128 = .ok (.ldc2_w 13, 3) := by decide +kernel
theorem dL_law_131 : decode cL_law 131 = .ok (.land, 1) := by decide +kernel
theorem dL_law_132 : decode cL_law 132 = .ok (.lor, 1) := by decide +kernel
theorem dL_law_133 : decode cL_law 133 = .ok (.invokevirtual 19, 3) := by decide +kernel
theorem dL_law_136 : decode cL_law 136 = .ok (.if_icmp .eq 241, 3) := by decide +kernel
theorem dL_law_139 : decode cL_law 139 = .ok (.iconst 0, 1) := by decide +kernel
theorem dL_law_140 : decode cL_law 140 = .ok (.ireturn, 1) := by decide +kernel
theorem dL_law_141 : decode cL_law 141 = .ok (.aload_n 1, 1) := by decide +kernel
theorem dL_law_142 : decode cL_law 142 = .ok (.aload_n 0, 1) := by decide +kernel
theorem dL_law_143 : decode cL_law 143 = .ok (.iload_n 3, 1) := by decide +kernel
theorem dL_law_144 : decode cL_law 144 = .ok (.iconst 1, 1) := by decide +kernel
theorem dL_law_145 : decode cL_law 145 = .ok (.iadd, 1) := by decide +kernel
theorem dL_law_146 : decode cL_law 146 = .ok (.iaload, 1) := by decide +kernel
theorem dL_law_147 : decode cL_law 147 = .ok (.aload_n 0, 1) := by decide +kernel
theorem dL_law_148 : decode cL_law 148 = .ok (.iload_n 3, 1) := by decide +kernel
theorem dL_law_149 : decode cL_law 149 = .ok (.iconst 2, 1) := by decide +kernel
theorem dL_law_150 : decode cL_law 150 = .ok (.iadd, 1) := by decide +kernel
theorem dL_law_151 : decode cL_law 151 = .ok (.iaload, 1) := by decide +kernel
theorem dL_law_152 : decode cL_law 152 = .ok (.aload_n 0, 1) := by decide +kernel
theorem dL_law_153 : decode cL_law 153 = .ok (.iload_n 3, 1) := by decide +kernel
theorem dL_law_154 : decode cL_law 154 = .ok (.iconst 3, 1) := by decide +kernel
theorem dL_law_155 : decode cL_law 155 = .ok (.iadd, 1) := by decide +kernel
theorem dL_law_156 : decode cL_law 156 = .ok (.iaload, 1) := by decide +kernel
theorem dL_law_157 : decode cL_law 157 = .ok (.aload_n 0, 1) := by decide +kernel
theorem dL_law_158 : decode cL_law 158 = .ok (.iload_n 3, 1) := by decide +kernel
theorem dL_law_159 : decode cL_law 159 = .ok (.iconst 4, 1) := by decide +kernel
theorem dL_law_160 : decode cL_law 160 = .ok (.iadd, 1) := by decide +kernel
theorem dL_law_161 : decode cL_law 161 = .ok (.iaload, 1) := by decide +kernel
theorem dL_law_162 : decode cL_law 162 = .ok (.invokevirtual 20, 3) := by decide +kernel
theorem dL_law_165 : decode cL_law 165 = .ok (.aload_n 2, 1) := by decide +kernel
theorem dL_law_166 : decode cL_law 166 = .ok (.aload_n 0, 1) := by decide +kernel
theorem dL_law_167 : decode cL_law 167 = .ok (.iload_n 3, 1) := by decide +kernel
theorem dL_law_168 : decode cL_law 168 = .ok (.iconst 1, 1) := by decide +kernel
theorem dL_law_169 : decode cL_law 169 = .ok (.iadd, 1) := by decide +kernel
theorem dL_law_170 : decode cL_law 170 = .ok (.iaload, 1) := by decide +kernel
theorem dL_law_171 : decode cL_law 171 = .ok (.aload_n 0, 1) := by decide +kernel
theorem dL_law_172 : decode cL_law 172 = .ok (.iload_n 3, 1) := by decide +kernel
theorem dL_law_173 : decode cL_law 173 = .ok (.iconst 2, 1) := by decide +kernel
theorem dL_law_174 : decode cL_law 174 = .ok (.iadd, 1) := by decide +kernel
theorem dL_law_175 : decode cL_law 175 = .ok (.iaload, 1) := by decide +kernel
theorem dL_law_176 : decode cL_law 176 = .ok (.aload_n 0, 1) := by decide +kernel
theorem dL_law_177 : decode cL_law 177 = .ok (.iload_n 3, 1) := by decide +kernel
theorem dL_law_178 : decode cL_law 178 = .ok (.iconst 3, 1) := by decide +kernel
theorem dL_law_179 : decode cL_law 179 = .ok (.iadd, 1) := by decide +kernel
theorem dL_law_180 : decode cL_law 180 = .ok (.iaload, 1) := by decide +kernel
theorem dL_law_181 : decode cL_law 181 = .ok (.aload_n 0, 1) := by decide +kernel
theorem dL_law_182 : decode cL_law 182 = .ok (.iload_n 3, 1) := by decide +kernel
theorem dL_law_183 : decode cL_law 183 = .ok (.iconst 4, 1) := by decide +kernel
theorem dL_law_184 : decode cL_law 184 = .ok (.iadd, 1) := by decide +kernel
theorem dL_law_185 : decode cL_law 185 = .ok (.iaload, 1) := by decide +kernel
theorem dL_law_186 : decode cL_law 186 = .ok (.invokevirtual 24, 3) := by decide +kernel
theorem dL_law_189 : decode cL_law 189 = .ok (.if_icmp .eq 188, 3) := by decide +kernel
theorem dL_law_192 : decode cL_law 192 = .ok (.iconst 0, 1) := by decide +kernel
theorem dL_law_193 : decode cL_law 193 = .ok (.ireturn, 1) := by decide +kernel
theorem dL_law_194 : decode cL_law 194 = .ok (.aload_n 1, 1) := by decide +kernel
theorem dL_law_195 : decode cL_law 195 = .ok (.aload_n 0, 1) := by decide +kernel
theorem dL_law_196 : decode cL_law 196 = .ok (.iload_n 3, 1) := by decide +kernel
theorem dL_law_197 : decode cL_law 197 = .ok (.iconst 1, 1) := by decide +kernel
theorem dL_law_198 : decode cL_law 198 = .ok (.iadd, 1) := by decide +kernel
theorem dL_law_199 : decode cL_law 199 = .ok (.iaload, 1) := by decide +kernel
theorem dL_law_200 : decode cL_law 200 = .ok (.aload_n 0, 1) := by decide +kernel
theorem dL_law_201 : decode cL_law 201 = .ok (.iload_n 3, 1) := by decide +kernel
theorem dL_law_202 : decode cL_law 202 = .ok (.iconst 2, 1) := by decide +kernel
theorem dL_law_203 : decode cL_law 203 = .ok (.iadd, 1) := by decide +kernel
theorem dL_law_204 : decode cL_law 204 = .ok (.iaload, 1) := by decide +kernel
theorem dL_law_205 : decode cL_law 205 = .ok (.aload_n 0, 1) := by decide +kernel
theorem dL_law_206 : decode cL_law 206 = .ok (.iload_n 3, 1) := by decide +kernel
theorem dL_law_207 : decode cL_law 207 = .ok (.iconst 3, 1) := by decide +kernel
theorem dL_law_208 : decode cL_law 208 = .ok (.iadd, 1) := by decide +kernel
theorem dL_law_209 : decode cL_law 209 = .ok (.iaload, 1) := by decide +kernel
theorem dL_law_210 : decode cL_law 210 = .ok (.invokevirtual 25, 3) := by decide +kernel
theorem dL_law_213 : decode cL_law 213 = .ok (.aload_n 2, 1) := by decide +kernel
theorem dL_law_214 : decode cL_law 214 = .ok (.aload_n 0, 1) := by decide +kernel
theorem dL_law_215 : decode cL_law 215 = .ok (.iload_n 3, 1) := by decide +kernel
theorem dL_law_216 : decode cL_law 216 = .ok (.iconst 1, 1) := by decide +kernel
theorem dL_law_217 : decode cL_law 217 = .ok (.iadd, 1) := by decide +kernel
theorem dL_law_218 : decode cL_law 218 = .ok (.iaload, 1) := by decide +kernel
theorem dL_law_219 : decode cL_law 219 = .ok (.aload_n 0, 1) := by decide +kernel
theorem dL_law_220 : decode cL_law 220 = .ok (.iload_n 3, 1) := by decide +kernel
theorem dL_law_221 : decode cL_law 221 = .ok (.iconst 2, 1) := by decide +kernel
theorem dL_law_222 : decode cL_law 222 = .ok (.iadd, 1) := by decide +kernel
theorem dL_law_223 : decode cL_law 223 = .ok (.iaload, 1) := by decide +kernel
theorem dL_law_224 : decode cL_law 224 = .ok (.aload_n 0, 1) := by decide +kernel
theorem dL_law_225 : decode cL_law 225 = .ok (.iload_n 3, 1) := by decide +kernel
theorem dL_law_226 : decode cL_law 226 = .ok (.iconst 3, 1) := by decide +kernel
theorem dL_law_227 : decode cL_law 227 = .ok (.iadd, 1) := by decide +kernel
theorem dL_law_228 : decode cL_law 228 = .ok (.iaload, 1) := by decide +kernel
theorem dL_law_229 : decode cL_law 229 = .ok (.invokevirtual 29, 3) := by decide +kernel
theorem dL_law_232 : decode cL_law 232 = .ok (.if_icmp .eq 145, 3) := by decide +kernel
theorem dL_law_235 : decode cL_law 235 = .ok (.iconst 0, 1) := by decide +kernel
theorem dL_law_236 : decode cL_law 236 = .ok (.ireturn, 1) := by decide +kernel
theorem dL_law_237 : decode cL_law 237 = .ok (.aload_n 1, 1) := by decide +kernel
theorem dL_law_238 : decode cL_law 238 = .ok (.aload_n 0, 1) := by decide +kernel
theorem dL_law_239 : decode cL_law 239 = .ok (.iload_n 3, 1) := by decide +kernel
theorem dL_law_240 : decode cL_law 240 = .ok (.iconst 1, 1) := by decide +kernel
theorem dL_law_241 : decode cL_law 241 = .ok (.iadd, 1) := by decide +kernel
theorem dL_law_242 : decode cL_law 242 = .ok (.iaload, 1) := by decide +kernel
theorem dL_law_243 : decode cL_law 243 = .ok (.aload_n 0, 1) := by decide +kernel
theorem dL_law_244 : decode cL_law 244 = .ok (.iload_n 3, 1) := by decide +kernel
theorem dL_law_245 : decode cL_law 245 = .ok (.iconst 2, 1) := by decide +kernel
theorem dL_law_246 : decode cL_law 246 = .ok (.iadd, 1) := by decide +kernel
theorem dL_law_247 : decode cL_law 247 = .ok (.iaload, 1) := by decide +kernel
theorem dL_law_248 : decode cL_law 248 = .ok (.invokevirtual 30, 3) := by decide +kernel
theorem dL_law_251 : decode cL_law 251 = .ok (.aload_n 2, 1) := by decide +kernel
theorem dL_law_252 : decode cL_law 252 = .ok (.aload_n 0, 1) := by decide +kernel
theorem dL_law_253 : decode cL_law 253 = .ok (.iload_n 3, 1) := by decide +kernel
theorem dL_law_254 : decode cL_law 254 = .ok (.iconst 1, 1) := by decide +kernel
theorem dL_law_255 : decode cL_law 255 = .ok (.iadd, 1) := by decide +kernel
theorem dL_law_256 : decode cL_law 256 = .ok (.iaload, 1) := by decide +kernel
theorem dL_law_257 : decode cL_law 257 = .ok (.aload_n 0, 1) := by decide +kernel
theorem dL_law_258 : decode cL_law 258 = .ok (.iload_n 3, 1) := by decide +kernel
theorem dL_law_259 : decode cL_law 259 = .ok (.iconst 2, 1) := by decide +kernel
theorem dL_law_260 : decode cL_law 260 = .ok (.iadd, 1) := by decide +kernel
theorem dL_law_261 : decode cL_law 261 = .ok (.iaload, 1) := by decide +kernel
theorem dL_law_262 : decode cL_law 262 = .ok (.invokevirtual 34, 3) := by decide +kernel
theorem dL_law_265 : decode cL_law 265 = .ok (.if_icmp .eq 112, 3) := by decide +kernel
theorem dL_law_268 : decode cL_law 268 = .ok (.iconst 0, 1) := by decide +kernel
theorem dL_law_269 : decode cL_law 269 = .ok (.ireturn, 1) := by decide +kernel
theorem dL_law_270 : decode cL_law 270 = .ok (.aload_n 1, 1) := by decide +kernel
theorem dL_law_271 : decode cL_law 271 = .ok (.aload_n 0, 1) := by decide +kernel
theorem dL_law_272 : decode cL_law 272 = .ok (.iload_n 3, 1) := by decide +kernel
theorem dL_law_273 : decode cL_law 273 = .ok (.iconst 1, 1) := by decide +kernel
theorem dL_law_274 : decode cL_law 274 = .ok (.iadd, 1) := by decide +kernel
theorem dL_law_275 : decode cL_law 275 = .ok (.iaload, 1) := by decide +kernel
theorem dL_law_276 : decode cL_law 276 = .ok (.invokevirtual 35, 3) := by decide +kernel
theorem dL_law_279 : decode cL_law 279 = .ok (.aload_n 2, 1) := by decide +kernel
theorem dL_law_280 : decode cL_law 280 = .ok (.aload_n 0, 1) := by decide +kernel
theorem dL_law_281 : decode cL_law 281 = .ok (.iload_n 3, 1) := by decide +kernel
theorem dL_law_282 : decode cL_law 282 = .ok (.iconst 1, 1) := by decide +kernel
theorem dL_law_283 : decode cL_law 283 = .ok (.iadd, 1) := by decide +kernel
theorem dL_law_284 : decode cL_law 284 = .ok (.iaload, 1) := by decide +kernel
theorem dL_law_285 : decode cL_law 285 = .ok (.invokevirtual 39, 3) := by decide +kernel
theorem dL_law_288 : decode cL_law 288 = .ok (.lcmp, 1) := by decide +kernel
theorem dL_law_289 : decode cL_law 289 = .ok (.ifCond .eq 88, 3) := by decide +kernel
theorem dL_law_292 : decode cL_law 292 = .ok (.iconst 0, 1) := by decide +kernel
theorem dL_law_293 : decode cL_law 293 = .ok (.ireturn, 1) := by decide +kernel
theorem dL_law_294 : decode cL_law 294 = .ok (.aload_n 1, 1) := by decide +kernel
theorem dL_law_295 : decode cL_law 295 = .ok (.aload_n 0, 1) := by decide +kernel
theorem dL_law_296 : decode cL_law 296 = .ok (.iload_n 3, 1) := by decide +kernel
theorem dL_law_297 : decode cL_law 297 = .ok (.iconst 1, 1) := by decide +kernel
theorem dL_law_298 : decode cL_law 298 = .ok (.iadd, 1) := by decide +kernel
theorem dL_law_299 : decode cL_law 299 = .ok (.iaload, 1) := by decide +kernel
theorem dL_law_300 : decode cL_law 300 = .ok (.aload_n 0, 1) := by decide +kernel
theorem dL_law_301 : decode cL_law 301 = .ok (.iload_n 3, 1) := by decide +kernel
theorem dL_law_302 : decode cL_law 302 = .ok (.iconst 2, 1) := by decide +kernel
theorem dL_law_303 : decode cL_law 303 = .ok (.iadd, 1) := by decide +kernel
theorem dL_law_304 : decode cL_law 304 = .ok (.iaload, 1) := by decide +kernel
theorem dL_law_305 : decode cL_law 305 = .ok (.invokevirtual 40, 3) := by decide +kernel
theorem dL_law_308 : decode cL_law 308 = .ok (.aload_n 2, 1) := by decide +kernel
theorem dL_law_309 : decode cL_law 309 = .ok (.aload_n 0, 1) := by decide +kernel
theorem dL_law_310 : decode cL_law 310 = .ok (.iload_n 3, 1) := by decide +kernel
theorem dL_law_311 : decode cL_law 311 = .ok (.iconst 1, 1) := by decide +kernel
theorem dL_law_312 : decode cL_law 312 = .ok (.iadd, 1) := by decide +kernel
theorem dL_law_313 : decode cL_law 313 = .ok (.iaload, 1) := by decide +kernel
theorem dL_law_314 : decode cL_law 314 = .ok (.aload_n 0, 1) := by decide +kernel
theorem dL_law_315 : decode cL_law 315 = .ok (.iload_n 3, 1) := by decide +kernel
theorem dL_law_316 : decode cL_law 316 = .ok (.iconst 2, 1) := by decide +kernel
theorem dL_law_317 : decode cL_law 317 = .ok (.iadd, 1) := by decide +kernel
theorem dL_law_318 : decode cL_law 318 = .ok (.iaload, 1) := by decide +kernel
theorem dL_law_319 : decode cL_law 319 = .ok (.invokevirtual 43, 3) := by decide +kernel
theorem dL_law_322 : decode cL_law 322 = .ok (.if_icmp .eq 55, 3) := by decide +kernel
theorem dL_law_325 : decode cL_law 325 = .ok (.iconst 0, 1) := by decide +kernel
theorem dL_law_326 : decode cL_law 326 = .ok (.ireturn, 1) := by decide +kernel
theorem dL_law_327 : decode cL_law 327 = .ok (.aload_n 1, 1) := by decide +kernel
theorem dL_law_328 : decode cL_law 328 = .ok (.invokevirtual 44, 3) := by decide +kernel
theorem dL_law_331 : decode cL_law 331 = .ok (.aload_n 2, 1) := by decide +kernel
theorem dL_law_332 : decode cL_law 332 = .ok (.invokevirtual 48, 3) := by decide +kernel
theorem dL_law_335 : decode cL_law 335 = .ok (.if_icmp .eq 42, 3) := by decide +kernel
theorem dL_law_338 : decode cL_law 338 = .ok (.iconst 0, 1) := by decide +kernel
theorem dL_law_339 : decode cL_law 339 = .ok (.ireturn, 1) := by decide +kernel
theorem dL_law_340 : decode cL_law 340 = .ok (.aload_n 1, 1) := by decide +kernel
theorem dL_law_341 : decode cL_law 341 = .ok (.invokevirtual 49, 3) := by decide +kernel
theorem dL_law_344 : decode cL_law 344 = .ok (.aload_n 2, 1) := by decide +kernel
theorem dL_law_345 : decode cL_law 345 = .ok (.invokevirtual 52, 3) := by decide +kernel
theorem dL_law_348 : decode cL_law 348 = .ok (.if_icmp .eq 29, 3) := by decide +kernel
theorem dL_law_351 : decode cL_law 351 = .ok (.iconst 0, 1) := by decide +kernel
theorem dL_law_352 : decode cL_law 352 = .ok (.ireturn, 1) := by decide +kernel
theorem dL_law_353 : decode cL_law 353 = .ok (.aload_n 1, 1) := by decide +kernel
theorem dL_law_354 : decode cL_law 354 = .ok (.invokevirtual 53, 3) := by decide +kernel
theorem dL_law_357 : decode cL_law 357 = .ok (.aload_n 2, 1) := by decide +kernel
theorem dL_law_358 : decode cL_law 358 = .ok (.invokevirtual 56, 3) := by decide +kernel
theorem dL_law_361 : decode cL_law 361 = .ok (.if_icmp .eq 16, 3) := by decide +kernel
theorem dL_law_364 : decode cL_law 364 = .ok (.iconst 0, 1) := by decide +kernel
theorem dL_law_365 : decode cL_law 365 = .ok (.ireturn, 1) := by decide +kernel
theorem dL_law_366 : decode cL_law 366 = .ok (.aload_n 1, 1) := by decide +kernel
theorem dL_law_367 : decode cL_law 367 = .ok (.invokevirtual 57, 3) := by decide +kernel
theorem dL_law_370 : decode cL_law 370 = .ok (.aload_n 2, 1) := by decide +kernel
theorem dL_law_371 : decode cL_law 371 = .ok (.invokevirtual 60, 3) := by decide +kernel
theorem dL_law_374 : decode cL_law 374 = .ok (.goto 3, 3) := by decide +kernel
theorem dL_law_377 : decode cL_law 377 = .ok (.iinc 3 5, 3) := by decide +kernel
theorem dL_law_380 : decode cL_law 380 = .ok (.goto (-362), 3) := by decide +kernel
theorem dL_law_383 : decode cL_law 383 = .ok (.iconst 1, 1) := by decide +kernel
theorem dL_law_384 : decode cL_law 384 = .ok (.ireturn, 1) := by decide +kernel
end
section
/-! ABSTRACT HEAPS: size; class of a cell (0: none; 1.. : vwCl's place + 1; 10 int[], 11 long[], 12 Thing[], 13 Object[], 14 the empty Object[] that is never written); int, long, reference fields by (field, address); lengths; elements of int, long, reference arrays by (address, index) -/
abbrev Sg : Type := Nat × (Nat → Nat) × (Nat → Nat → Int32) × (Nat → Nat → Int64) × (Nat → Nat → Option Nat) × (Nat → Nat) × (Nat → Nat → Int32) × (Nat → Nat → Int64) × (Nat → Nat → Option Nat)
def hs (σ : Sg) : Nat := σ.1
def gc (σ : Sg) : Nat → Nat := σ.2.1
def gi (σ : Sg) : Nat → Nat → Int32 := σ.2.2.1
def gj (σ : Sg) : Nat → Nat → Int64 := σ.2.2.2.1
def gp (σ : Sg) : Nat → Nat → Option Nat := σ.2.2.2.2.1
def gl (σ : Sg) : Nat → Nat := σ.2.2.2.2.2.1
def ai (σ : Sg) : Nat → Nat → Int32 := σ.2.2.2.2.2.2.1
def aj (σ : Sg) : Nat → Nat → Int64 := σ.2.2.2.2.2.2.2.1
def ap (σ : Sg) : Nat → Nat → Option Nat := σ.2.2.2.2.2.2.2.2
def u2 {α : Type} (f : Nat → Nat → α) (i a : Nat) (v : α) : Nat → Nat → α := fun j b => if j = i ∧ b = a then v else f j b
def u1 {α : Type} (f : Nat → α) (a : Nat) (v : α) : Nat → α := fun b => if b = a then v else f b
def uc {α : Type} (f : Nat → Nat → α) (a : Nat) (v : α) : Nat → Nat → α := fun j b => if b = a then v else f j b
def si (σ : Sg) (f a : Nat) (v : Int32) : Sg := (hs σ, gc σ, u2 (gi σ) f a v, gj σ, gp σ, gl σ, ai σ, aj σ, ap σ)
def sj (σ : Sg) (f a : Nat) (v : Int64) : Sg := (hs σ, gc σ, gi σ, u2 (gj σ) f a v, gp σ, gl σ, ai σ, aj σ, ap σ)
def sp (σ : Sg) (f a : Nat) (v : Option Nat) : Sg := (hs σ, gc σ, gi σ, gj σ, u2 (gp σ) f a v, gl σ, ai σ, aj σ, ap σ)
def wi (σ : Sg) (a i : Nat) (v : Int32) : Sg := (hs σ, gc σ, gi σ, gj σ, gp σ, gl σ, u2 (ai σ) a i v, aj σ, ap σ)
def wj (σ : Sg) (a i : Nat) (v : Int64) : Sg := (hs σ, gc σ, gi σ, gj σ, gp σ, gl σ, ai σ, u2 (aj σ) a i v, ap σ)
def wp (σ : Sg) (a i : Nat) (v : Option Nat) : Sg := (hs σ, gc σ, gi σ, gj σ, gp σ, gl σ, ai σ, aj σ, u2 (ap σ) a i v)
/-- a row of references gets another's contents -/
def wr (σ : Sg) (a : Nat) (f : Nat → Option Nat) : Sg := (hs σ, gc σ, gi σ, gj σ, gp σ, gl σ, ai σ, aj σ, u1 (ap σ) a f)
/-- a new object of class cls, at the heap's end -/
def nw (σ : Sg) (cls : Nat) : Sg := (hs σ + 1, u1 (gc σ) (hs σ) cls, uc (gi σ) (hs σ) 0, uc (gj σ) (hs σ) 0, uc (gp σ) (hs σ) none, gl σ, ai σ, aj σ, ap σ)
/-- a new array of class cls and length N, at the heap's end -/
def na (σ : Sg) (cls N : Nat) : Sg := (hs σ + 1, u1 (gc σ) (hs σ) cls, gi σ, gj σ, gp σ, u1 (gl σ) (hs σ) N, u1 (ai σ) (hs σ) (fun _ => 0), u1 (aj σ) (hs σ) (fun _ => 0), u1 (ap σ) (hs σ) (fun _ => none))

/-- an object's fields -/
def fl (ci : Nat) (σ : Sg) (a : Nat) : List Value := match ci with
  | 0 => [.int (gi σ 0 a), va_rf (gp σ 1 a), .int (gi σ 2 a)]
  | 1 => [va_rf (gp σ 100 a), .int (gi σ 101 a), va_rf (gp σ 102 a), va_rf (gp σ 103 a), .int (gi σ 104 a), va_rf (gp σ 105 a), va_rf (gp σ 106 a), va_rf (gp σ 107 a), va_rf (gp σ 108 a), .long (gj σ 109 a)]
  | 2 => [va_rf (gp σ 200 a), va_rf (gp σ 201 a), va_rf (gp σ 202 a), va_rf (gp σ 203 a), va_rf (gp σ 204 a), va_rf (gp σ 205 a), va_rf (gp σ 206 a), .int (gi σ 207 a), .int (gi σ 208 a), .int (gi σ 209 a), .int (gi σ 210 a), .int (gi σ 211 a), .int (gi σ 212 a)]
  | 3 => [.int (gi σ 300 a), .int (gi σ 301 a)]
  | 4 => [.int (gi σ 400 a), .int (gi σ 401 a), .long (gj σ 402 a), .int (gi σ 403 a), .int (gi σ 404 a), .int (gi σ 405 a)]
  | 5 => [va_rf (gp σ 500 a)]
  | 6 => [.int (gi σ 600 a), .int (gi σ 601 a), .long (gj σ 602 a), va_rf (gp σ 603 a), va_rf (gp σ 604 a), .int (gi σ 605 a), va_rf (gp σ 606 a)]
  | 7 => [va_rf (gp σ 700 a), va_rf (gp σ 701 a)]
  | 8 => [va_rf (gp σ 800 a), va_rf (gp σ 801 a), va_rf (gp σ 802 a), va_rf (gp σ 803 a), .int (gi σ 804 a), va_rf (gp σ 805 a), va_rf (gp σ 806 a), va_rf (gp σ 807 a), va_rf (gp σ 808 a), .int (gi σ 809 a), va_rf (gp σ 810 a), .int (gi σ 811 a), va_rf (gp σ 812 a), .int (gi σ 813 a), va_rf (gp σ 814 a), va_rf (gp σ 815 a), va_rf (gp σ 816 a), va_rf (gp σ 817 a), .int (gi σ 818 a), .int (gi σ 819 a), .int (gi σ 820 a), .int (gi σ 821 a), .int (gi σ 822 a), .int (gi σ 823 a), .int (gi σ 824 a), .int (gi σ 825 a), .int (gi σ 826 a), .int (gi σ 827 a)]
  | _ => []
abbrev Dp : Type := va_G × ClassId × ClassId × ClassId × ClassId × Nat × Nat
def cA (d : Dp) (c : Nat) : ClassId := if c = 10 then d.2.1 else if c = 11 then d.2.2.1 else if c = 12 then d.2.2.2.1 else d.2.2.2.2.1
def dfl (d : Dp) : Nat := d.2.2.2.2.2.1
def mir (d : Dp) : Nat := d.2.2.2.2.2.2
/-- the array's contents by its class -/
def ac (c : Nat) (σ : Sg) (a : Nat) : vp_A := if c = 10 then (gl σ a, .inl (ai σ a)) else if c = 11 then (gl σ a, .inr (.inl (aj σ a))) else (gl σ a, .inr (.inr (.inr (.inr (ap σ a)))))
def ce (d : Dp) (σ : Sg) (a : Nat) (H : Heap) : Prop :=
  (∀ ci : Nat, gc σ a = ci + 1 → ci < 9 → va_at d.1 vwCl (a, .inr (ci, fl ci σ a)) H) ∧ (10 ≤ gc σ a → H[a]? = some (vp_cell (cA d (gc σ a)) (ac (gc σ a) σ a)))
/-- the heap holds the abstract heap -/
def HW (d : Dp) (σ : Sg) (H : Heap) : Prop := H.size = hs σ ∧ ∀ a, gc σ a ≠ 0 → a < hs σ ∧ ce d σ a H
/-- what a method may change -/
def AA (σ : Sg) : Nat → Prop := fun q => (gc σ q ≠ 0 ∧ gc σ q ≠ 14) ∨ hs σ ≤ q
def PA (A : Nat → Prop) (σ : Sg) : Prop := ∀ a, gc σ a ≠ 0 → gc σ a ≠ 14 → A a
abbrev tysD (d : Dp) : List (ClassId × FieldType) := [(cA d 10, .int), (cA d 11, .long), (cA d 12, .object "FrameTalk$Thing"), (cA d 13, .object "java/lang/Object")]
abbrev gcn : MethodName := ⟨"java/lang/Object", "getClass", "()Ljava/lang/Class;"⟩
/-- what the tables say, at any state of the run -/
def KU (d : Dp) (U : State) : Prop := va_K d.1 vwCl (tysD d) U ∧ va_Nw (.methodLinkNest RX1 11 yX4_init "FrameTalk") U ∧ va_Nw (.methodLinkNest RX1 20 yX2_init "FrameTalk") U ∧ va_Mi "[Ljava/lang/Object;" (mir d) U ∧ va_Dc U ∧ va_AO "FrameTalk$Thing" U ∧ va_AO "java/lang/Object" U ∧ va_Nw (.castable RX3 "java/lang/Object") U
theorem KU.warm {d : Dp} {s U : State} (hW : s.WarmedH U.vm) (h : KU d s) : KU d U :=
  ⟨va_K.moved hW.alike h.1, va_Nw.warmM hW h.2.1, va_Nw.warmM hW h.2.2.1, h.2.2.2.1.moved hW.alike, h.2.2.2.2.1.moved hW.alike, h.2.2.2.2.2.1.moved hW.alike, h.2.2.2.2.2.2.1.moved hW.alike, va_Nw.warmC hW h.2.2.2.2.2.2.2⟩
theorem KU.same {d : Dp} {s U : State} (hv : s.vm = U.vm) (h : KU d s) : KU d U := by
  have hW : s.WarmedH U.vm := by rw [← hv]; exact State.WarmedH.refl s
  exact h.warm hW
/-- the static empty array -/
abbrev ZU (d : Dp) (A : Nat → Prop) (U : State) (H : Heap) : Prop := va_Z "java/util/ArrayList" "DEFAULTCAPACITY_EMPTY_ELEMENTDATA" "[Ljava/lang/Object;" (.ref (dfl d)) A U H
theorem ck {c : Prop} [Decidable c] {α : Type} {e : Option α} {v : α} (h : (if c then e else none) = some v) : c ∧ e = some v := by
  by_cases hc : c
  · rw [if_pos hc] at h; exact ⟨hc, h⟩
  · rw [if_neg hc] at h; cases h
theorem nn {α β : Type} {o : Option α} {f : α → Option β} {v : β} (h : o.bind f = some v) : ∃ a, o = some a ∧ f a = some v := by
  cases o with
  | none => cases h
  | some a => exact ⟨a, rfl, h⟩
theorem ift {c : Prop} [Decidable c] {α : Type} {a b v : α} (hc : c) (h : (if c then a else b) = v) : a = v := by rw [if_pos hc] at h; exact h
theorem iff' {c : Prop} [Decidable c] {α : Type} {a b v : α} (hc : ¬ c) (h : (if c then a else b) = v) : b = v := by rw [if_neg hc] at h; exact h
theorem va_rf_cat (r : Option Nat) : (va_rf r).category = 1 := by cases r <;> rfl
section GK
variable {p : Program} {l : Launch} {e : Env} {R : Room} {s : State} {m : MethodId} {args : Array Value} {below : List Frame} {meth : Method} {c : Code} {d : Dp} {A : Nat → Prop} {Q : State → Prop} {nL : Nat} {σ : Sg} {k n pc : Nat} {lv : List (Nat × Value)} {st : List Value} {own : String} {cc : ByteArray} {ret : Option FieldType}
/-- from any heap that holds σ, and any locals that hold lv -/
def Gk (p : Program) (l : Launch) (e : Env) (R : Room) (s : State) (m : MethodId) (args : Array Value) (below : List Frame) (meth : Method) (c : Code) (d : Dp) (A : Nat → Prop) (Q : State → Prop) (nL : Nat) (σ : Sg) (k n pc : Nat) (lv : List (Nat × Value)) (st : List Value) : Prop :=
  ∀ (H : Heap) (locs : List Loc) (ls : Array Slot), HW d σ H → va_S A s.heap H locs → PA A σ → lv_has ls nL lv → W p l e R s m args below meth c H locs k n Q (F0 m pc ls st)
/-- the method that is walked -/
def Ev (p : Program) (s : State) (m : MethodId) (args : Array Value) (meth : Method) (c : Code) (own : String) (cc : ByteArray) (nL : Nat) (ret : Option FieldType) (d : Dp) (A : Nat → Prop) : Prop :=
  p.tables.exec = Jvm.exec ∧ c.code = cc ∧ c.maxLocals = nL ∧ s.vm.findClass own = some m.cls ∧ (∀ w ∈ wsL_law, w.before args s = true) ∧ KU d s ∧ (∀ q, s.heap.size ≤ q → A q) ∧ meth.sig.returnType = ret ∧ meth.locks = false ∧ ZU d A s s.heap
theorem Ev.x (E : Ev p s m args meth c own cc nL ret d A) : p.tables.exec = Jvm.exec := E.1
theorem Ev.b (E : Ev p s m args meth c own cc nL ret d A) : c.code = cc := E.2.1
theorem Ev.ml (E : Ev p s m args meth c own cc nL ret d A) : c.maxLocals = nL := E.2.2.1
theorem Ev.ow (E : Ev p s m args meth c own cc nL ret d A) : s.vm.findClass own = some m.cls := E.2.2.2.1
theorem Ev.ts (E : Ev p s m args meth c own cc nL ret d A) : ∀ w ∈ wsL_law, w.before args s = true := E.2.2.2.2.1
theorem Ev.K (E : Ev p s m args meth c own cc nL ret d A) : KU d s := E.2.2.2.2.2.1
theorem Ev.fr (E : Ev p s m args meth c own cc nL ret d A) : ∀ q, s.heap.size ≤ q → A q := E.2.2.2.2.2.2.1
theorem Ev.rt (E : Ev p s m args meth c own cc nL ret d A) : meth.sig.returnType = ret := E.2.2.2.2.2.2.2.1
theorem Ev.lk (E : Ev p s m args meth c own cc nL ret d A) : meth.locks = false := E.2.2.2.2.2.2.2.2.1
theorem Ev.Z (E : Ev p s m args meth c own cc nL ret d A) : ZU d A s s.heap := E.2.2.2.2.2.2.2.2.2

theorem r_iconst (E : Ev p s m args meth c own cc nL ret d A) {z : Int} {v : Int32} (hd : decode cc pc = .ok (.iconst z, 1)) (hv : Int32.ofInt z = v) (kk : Gk p l e R s m args below meth c d A Q nL σ k n (pc + 1) lv (.int v :: st)) : Gk p l e R s m args below meth c d A Q nL σ k n pc lv st := fun H locs ls hH hS hP hl => lv_iconst E.x E.b hd hv (kk H locs ls hH hS hP hl)
theorem r_bipush (E : Ev p s m args meth c own cc nL ret d A) {z : Int} {v : Int32} (hd : decode cc pc = .ok (.bipush z, 2)) (hv : (Int8.ofInt z).toInt32 = v) (kk : Gk p l e R s m args below meth c d A Q nL σ k n (pc + 2) lv (.int v :: st)) : Gk p l e R s m args below meth c d A Q nL σ k n pc lv st := fun H locs ls hH hS hP hl => lv_bipush E.x E.b hd hv (kk H locs ls hH hS hP hl)
theorem r_sipush (E : Ev p s m args meth c own cc nL ret d A) {z : Int} {v : Int32} (hd : decode cc pc = .ok (.sipush z, 3)) (hv : (Int16.ofInt z).toInt32 = v) (kk : Gk p l e R s m args below meth c d A Q nL σ k n (pc + 3) lv (.int v :: st)) : Gk p l e R s m args below meth c d A Q nL σ k n pc lv st := fun H locs ls hH hS hP hl => lv_sipush E.x E.b hd hv (kk H locs ls hH hS hP hl)
theorem r_lconst (E : Ev p s m args meth c own cc nL ret d A) {z : Fin 2} {v : Int64} (hd : decode cc pc = .ok (.lconst z, 1)) (hv : Int64.ofNat (z : Nat) = v) (kk : Gk p l e R s m args below meth c d A Q nL σ k n (pc + 1) lv (.long v :: st)) : Gk p l e R s m args below meth c d A Q nL σ k n pc lv st := fun H locs ls hH hS hP hl => lv_lconst E.x E.b hd hv (kk H locs ls hH hS hP hl)
theorem r_ldc (E : Ev p s m args meth c own cc nL ret d A) {ix : Nat} {v : Int32} (hd : decode cc pc = .ok (.ldc ix, 2)) (hw : Cond.constant own ix v ∈ wsL_law) (kk : Gk p l e R s m args below meth c d A Q nL σ k n (pc + 2) lv (.int v :: st)) : Gk p l e R s m args below meth c d A Q nL σ k n pc lv st := fun H locs ls hH hS hP hl => lv_ldc E.x E.b E.ow (E.ts _ hw) hd (kk H locs ls hH hS hP hl)
theorem r_ldc2 (E : Ev p s m args meth c own cc nL ret d A) {ix : Nat} {v : Int64} (hd : decode cc pc = .ok (.ldc2_w ix, 3)) (hw : Cond.constantLong own ix v ∈ wsL_law) (kk : Gk p l e R s m args below meth c d A Q nL σ k n (pc + 3) lv (.long v :: st)) : Gk p l e R s m args below meth c d A Q nL σ k n pc lv st := fun H locs ls hH hS hP hl => lv_ldc2 E.x E.b E.ow (E.ts _ hw) hd (kk H locs ls hH hS hP hl)
theorem r_null (E : Ev p s m args meth c own cc nL ret d A)  (hd : decode cc pc = .ok (.aconst_null, 1)) (kk : Gk p l e R s m args below meth c d A Q nL σ k n (pc + 1) lv (va_rf none :: st)) : Gk p l e R s m args below meth c d A Q nL σ k n pc lv st := fun H locs ls hH hS hP hl => lv_null E.x E.b hd (kk H locs ls hH hS hP hl)
theorem r_iload_n (E : Ev p s m args meth c own cc nL ret d A) {z : Fin 4} {i j : Nat} {x : Int32} (hd : decode cc pc = .ok (.iload_n z, 1)) (hi : (z : Nat) = i) (hj : lv[j]? = some (i, .int x)) (kk : Gk p l e R s m args below meth c d A Q nL σ k n (pc + 1) lv (.int x :: st)) : Gk p l e R s m args below meth c d A Q nL σ k n pc lv st := fun H locs ls hH hS hP hl => lv_iload_n E.x E.b hd hi (lv_at hl j hj) (kk H locs ls hH hS hP hl)
theorem r_iload (E : Ev p s m args meth c own cc nL ret d A) {i j : Nat} {x : Int32} (hd : decode cc pc = .ok (.iload i, 2)) (hj : lv[j]? = some (i, .int x)) (kk : Gk p l e R s m args below meth c d A Q nL σ k n (pc + 2) lv (.int x :: st)) : Gk p l e R s m args below meth c d A Q nL σ k n pc lv st := fun H locs ls hH hS hP hl => lv_iload E.x E.b hd (lv_at hl j hj) (kk H locs ls hH hS hP hl)
theorem r_lload_n (E : Ev p s m args meth c own cc nL ret d A) {z : Fin 4} {i j : Nat} {x : Int64} (hd : decode cc pc = .ok (.lload_n z, 1)) (hi : (z : Nat) = i) (hj : lv[j]? = some (i, .long x)) (kk : Gk p l e R s m args below meth c d A Q nL σ k n (pc + 1) lv (.long x :: st)) : Gk p l e R s m args below meth c d A Q nL σ k n pc lv st := fun H locs ls hH hS hP hl => lv_lload_n E.x E.b hd hi (lv_at hl j hj) (kk H locs ls hH hS hP hl)
theorem r_lload (E : Ev p s m args meth c own cc nL ret d A) {i j : Nat} {x : Int64} (hd : decode cc pc = .ok (.lload i, 2)) (hj : lv[j]? = some (i, .long x)) (kk : Gk p l e R s m args below meth c d A Q nL σ k n (pc + 2) lv (.long x :: st)) : Gk p l e R s m args below meth c d A Q nL σ k n pc lv st := fun H locs ls hH hS hP hl => lv_lload E.x E.b hd (lv_at hl j hj) (kk H locs ls hH hS hP hl)
theorem r_aload_n (E : Ev p s m args meth c own cc nL ret d A) {z : Fin 4} {i j : Nat} {x : Option Nat} (hd : decode cc pc = .ok (.aload_n z, 1)) (hi : (z : Nat) = i) (hj : lv[j]? = some (i, va_rf x)) (kk : Gk p l e R s m args below meth c d A Q nL σ k n (pc + 1) lv (va_rf x :: st)) : Gk p l e R s m args below meth c d A Q nL σ k n pc lv st := fun H locs ls hH hS hP hl => by
  have h1 := lv_at hl j hj
  cases x with
  | none => exact lv_aload_nN E.x E.b hd hi h1 (kk H locs ls hH hS hP hl)
  | some a => exact lv_aload_n E.x E.b hd hi h1 (kk H locs ls hH hS hP hl)
theorem r_aload (E : Ev p s m args meth c own cc nL ret d A) {i j : Nat} {x : Option Nat} (hd : decode cc pc = .ok (.aload i, 2)) (hj : lv[j]? = some (i, va_rf x)) (kk : Gk p l e R s m args below meth c d A Q nL σ k n (pc + 2) lv (va_rf x :: st)) : Gk p l e R s m args below meth c d A Q nL σ k n pc lv st := fun H locs ls hH hS hP hl => by
  have h1 := lv_at hl j hj
  cases x with
  | none => exact lv_aloadN E.x E.b hd h1 (kk H locs ls hH hS hP hl)
  | some a => exact lv_aload E.x E.b hd h1 (kk H locs ls hH hS hP hl)
theorem r_istore_n (E : Ev p s m args meth c own cc nL ret d A) {z : Fin 4} {i : Nat} {x : Int32} {lv' : List (Nat × Value)} (hd : decode cc pc = .ok (.istore_n z, 1)) (hi : (z : Nat) = i) (hn : i < nL) (hq : (i, Value.int x) :: lv.filter (fun q => !(q.1 == i) && !(q.1 + 1 == i && q.2.category == 2)) = lv') (kk : Gk p l e R s m args below meth c d A Q nL σ k n (pc + 1) lv' st) : Gk p l e R s m args below meth c d A Q nL σ k n pc lv (.int x :: st) := fun H locs ls hH hS hP hl => lv_istore_n E.x E.b hd hi hl hn hq (fun ls2 hl2 => kk H locs ls2 hH hS hP hl2)
theorem r_istore (E : Ev p s m args meth c own cc nL ret d A) {i : Nat} {x : Int32} {lv' : List (Nat × Value)} (hd : decode cc pc = .ok (.istore i, 2)) (hn : i < nL) (hq : (i, Value.int x) :: lv.filter (fun q => !(q.1 == i) && !(q.1 + 1 == i && q.2.category == 2)) = lv') (kk : Gk p l e R s m args below meth c d A Q nL σ k n (pc + 2) lv' st) : Gk p l e R s m args below meth c d A Q nL σ k n pc lv (.int x :: st) := fun H locs ls hH hS hP hl => lv_istore E.x E.b hd hl hn hq (fun ls2 hl2 => kk H locs ls2 hH hS hP hl2)
theorem r_lstore_n (E : Ev p s m args meth c own cc nL ret d A) {z : Fin 4} {i : Nat} {x : Int64} {lv' : List (Nat × Value)} (hd : decode cc pc = .ok (.lstore_n z, 1)) (hi : (z : Nat) = i) (hn : i + 1 < nL) (hq : (i, Value.long x) :: lv.filter (fun q => !(q.1 == i) && (!(q.1 == i + 1) && !(q.1 + 1 == i && q.2.category == 2))) = lv') (kk : Gk p l e R s m args below meth c d A Q nL σ k n (pc + 1) lv' st) : Gk p l e R s m args below meth c d A Q nL σ k n pc lv (.long x :: st) := fun H locs ls hH hS hP hl => lv_lstore_n E.x E.b hd hi hl hn hq (fun ls2 hl2 => kk H locs ls2 hH hS hP hl2)
theorem r_lstore (E : Ev p s m args meth c own cc nL ret d A) {i : Nat} {x : Int64} {lv' : List (Nat × Value)} (hd : decode cc pc = .ok (.lstore i, 2)) (hn : i + 1 < nL) (hq : (i, Value.long x) :: lv.filter (fun q => !(q.1 == i) && (!(q.1 == i + 1) && !(q.1 + 1 == i && q.2.category == 2))) = lv') (kk : Gk p l e R s m args below meth c d A Q nL σ k n (pc + 2) lv' st) : Gk p l e R s m args below meth c d A Q nL σ k n pc lv (.long x :: st) := fun H locs ls hH hS hP hl => lv_lstore E.x E.b hd hl hn hq (fun ls2 hl2 => kk H locs ls2 hH hS hP hl2)
theorem r_astore_n (E : Ev p s m args meth c own cc nL ret d A) {z : Fin 4} {i : Nat} {x : Option Nat} {lv' : List (Nat × Value)} (hd : decode cc pc = .ok (.astore_n z, 1)) (hi : (z : Nat) = i) (hn : i < nL) (hq : (i, va_rf x) :: lv.filter (fun q => !(q.1 == i) && !(q.1 + 1 == i && q.2.category == 2)) = lv') (kk : Gk p l e R s m args below meth c d A Q nL σ k n (pc + 1) lv' st) : Gk p l e R s m args below meth c d A Q nL σ k n pc lv (va_rf x :: st) := fun H locs ls hH hS hP hl => by
  cases x with
  | none => exact lv_astore_nN E.x E.b hd hi hl hn hq (fun ls2 hl2 => kk H locs ls2 hH hS hP hl2)
  | some a => exact lv_astore_n E.x E.b hd hi hl hn hq (fun ls2 hl2 => kk H locs ls2 hH hS hP hl2)
theorem r_astore (E : Ev p s m args meth c own cc nL ret d A) {i : Nat} {x : Option Nat} {lv' : List (Nat × Value)} (hd : decode cc pc = .ok (.astore i, 2)) (hn : i < nL) (hq : (i, va_rf x) :: lv.filter (fun q => !(q.1 == i) && !(q.1 + 1 == i && q.2.category == 2)) = lv') (kk : Gk p l e R s m args below meth c d A Q nL σ k n (pc + 2) lv' st) : Gk p l e R s m args below meth c d A Q nL σ k n pc lv (va_rf x :: st) := fun H locs ls hH hS hP hl => by
  cases x with
  | none => exact lv_astoreN E.x E.b hd hl hn hq (fun ls2 hl2 => kk H locs ls2 hH hS hP hl2)
  | some a => exact lv_astore E.x E.b hd hl hn hq (fun ls2 hl2 => kk H locs ls2 hH hS hP hl2)
theorem r_iinc (E : Ev p s m args meth c own cc nL ret d A) {i j : Nat} {z : Int} {x v : Int32} {lv' : List (Nat × Value)} (hd : decode cc pc = .ok (.iinc i z, 3)) (hj : lv[j]? = some (i, .int x)) (hv : x + Int32.ofInt z = v) (hn : i < nL) (hq : (i, Value.int v) :: lv.filter (fun q => !(q.1 == i) && !(q.1 + 1 == i && q.2.category == 2)) = lv') (kk : Gk p l e R s m args below meth c d A Q nL σ k n (pc + 3) lv' st) : Gk p l e R s m args below meth c d A Q nL σ k n pc lv st := fun H locs ls hH hS hP hl => lv_iinc E.x E.b hd hl hj hv hn hq (fun ls2 hl2 => kk H locs ls2 hH hS hP hl2)
theorem r_iadd (E : Ev p s m args meth c own cc nL ret d A) {x y : Int32} (hd : decode cc pc = .ok (.iadd, 1)) (kk : Gk p l e R s m args below meth c d A Q nL σ k n (pc + 1) lv (.int (x + y) :: st)) : Gk p l e R s m args below meth c d A Q nL σ k n pc lv (.int y :: .int x :: st) := fun H locs ls hH hS hP hl => lv_iadd E.x E.b hd (kk H locs ls hH hS hP hl)
theorem r_isub (E : Ev p s m args meth c own cc nL ret d A) {x y : Int32} (hd : decode cc pc = .ok (.isub, 1)) (kk : Gk p l e R s m args below meth c d A Q nL σ k n (pc + 1) lv (.int (x - y) :: st)) : Gk p l e R s m args below meth c d A Q nL σ k n pc lv (.int y :: .int x :: st) := fun H locs ls hH hS hP hl => lv_isub E.x E.b hd (kk H locs ls hH hS hP hl)
theorem r_imul (E : Ev p s m args meth c own cc nL ret d A) {x y : Int32} (hd : decode cc pc = .ok (.imul, 1)) (kk : Gk p l e R s m args below meth c d A Q nL σ k n (pc + 1) lv (.int (x * y) :: st)) : Gk p l e R s m args below meth c d A Q nL σ k n pc lv (.int y :: .int x :: st) := fun H locs ls hH hS hP hl => lv_imul E.x E.b hd (kk H locs ls hH hS hP hl)
theorem r_iand (E : Ev p s m args meth c own cc nL ret d A) {x y : Int32} (hd : decode cc pc = .ok (.iand, 1)) (kk : Gk p l e R s m args below meth c d A Q nL σ k n (pc + 1) lv (.int (x &&& y) :: st)) : Gk p l e R s m args below meth c d A Q nL σ k n pc lv (.int y :: .int x :: st) := fun H locs ls hH hS hP hl => lv_iand E.x E.b hd (kk H locs ls hH hS hP hl)
theorem r_ishr (E : Ev p s m args meth c own cc nL ret d A) {x y : Int32} (hd : decode cc pc = .ok (.ishr, 1)) (kk : Gk p l e R s m args below meth c d A Q nL σ k n (pc + 1) lv (.int (x >>> (y &&& 31)) :: st)) : Gk p l e R s m args below meth c d A Q nL σ k n pc lv (.int y :: .int x :: st) := fun H locs ls hH hS hP hl => lv_ishr E.x E.b hd (kk H locs ls hH hS hP hl)
theorem r_ladd (E : Ev p s m args meth c own cc nL ret d A) {x y : Int64} (hd : decode cc pc = .ok (.ladd, 1)) (kk : Gk p l e R s m args below meth c d A Q nL σ k n (pc + 1) lv (.long (x + y) :: st)) : Gk p l e R s m args below meth c d A Q nL σ k n pc lv (.long y :: .long x :: st) := fun H locs ls hH hS hP hl => lv_ladd E.x E.b hd (kk H locs ls hH hS hP hl)
theorem r_lsub (E : Ev p s m args meth c own cc nL ret d A) {x y : Int64} (hd : decode cc pc = .ok (.lsub, 1)) (kk : Gk p l e R s m args below meth c d A Q nL σ k n (pc + 1) lv (.long (x - y) :: st)) : Gk p l e R s m args below meth c d A Q nL σ k n pc lv (.long y :: .long x :: st) := fun H locs ls hH hS hP hl => lv_lsub E.x E.b hd (kk H locs ls hH hS hP hl)
theorem r_lmul (E : Ev p s m args meth c own cc nL ret d A) {x y : Int64} (hd : decode cc pc = .ok (.lmul, 1)) (kk : Gk p l e R s m args below meth c d A Q nL σ k n (pc + 1) lv (.long (x * y) :: st)) : Gk p l e R s m args below meth c d A Q nL σ k n pc lv (.long y :: .long x :: st) := fun H locs ls hH hS hP hl => lv_lmul E.x E.b hd (kk H locs ls hH hS hP hl)
theorem r_land (E : Ev p s m args meth c own cc nL ret d A) {x y : Int64} (hd : decode cc pc = .ok (.land, 1)) (kk : Gk p l e R s m args below meth c d A Q nL σ k n (pc + 1) lv (.long (x &&& y) :: st)) : Gk p l e R s m args below meth c d A Q nL σ k n pc lv (.long y :: .long x :: st) := fun H locs ls hH hS hP hl => lv_land E.x E.b hd (kk H locs ls hH hS hP hl)
theorem r_lor (E : Ev p s m args meth c own cc nL ret d A) {x y : Int64} (hd : decode cc pc = .ok (.lor, 1)) (kk : Gk p l e R s m args below meth c d A Q nL σ k n (pc + 1) lv (.long (x ||| y) :: st)) : Gk p l e R s m args below meth c d A Q nL σ k n pc lv (.long y :: .long x :: st) := fun H locs ls hH hS hP hl => lv_lor E.x E.b hd (kk H locs ls hH hS hP hl)
theorem r_ldiv (E : Ev p s m args meth c own cc nL ret d A) {x y : Int64} (hd : decode cc pc = .ok (.ldiv, 1)) (h0 : ¬ y = 0) (kk : Gk p l e R s m args below meth c d A Q nL σ k n (pc + 1) lv (.long (x / y) :: st)) : Gk p l e R s m args below meth c d A Q nL σ k n pc lv (.long y :: .long x :: st) := fun H locs ls hH hS hP hl => lv_ldiv E.x E.b hd h0 (kk H locs ls hH hS hP hl)
theorem r_lrem (E : Ev p s m args meth c own cc nL ret d A) {x y : Int64} (hd : decode cc pc = .ok (.lrem, 1)) (h0 : ¬ y = 0) (kk : Gk p l e R s m args below meth c d A Q nL σ k n (pc + 1) lv (.long (x - x / y * y) :: st)) : Gk p l e R s m args below meth c d A Q nL σ k n pc lv (.long y :: .long x :: st) := fun H locs ls hH hS hP hl => lv_lrem E.x E.b hd h0 (kk H locs ls hH hS hP hl)
theorem r_lneg (E : Ev p s m args meth c own cc nL ret d A) {x : Int64} (hd : decode cc pc = .ok (.lneg, 1)) (kk : Gk p l e R s m args below meth c d A Q nL σ k n (pc + 1) lv (.long (-x) :: st)) : Gk p l e R s m args below meth c d A Q nL σ k n pc lv (.long x :: st) := fun H locs ls hH hS hP hl => lv_lneg E.x E.b hd (kk H locs ls hH hS hP hl)
theorem r_lshl (E : Ev p s m args meth c own cc nL ret d A) {x : Int64} {y : Int32} (hd : decode cc pc = .ok (.lshl, 1)) (kk : Gk p l e R s m args below meth c d A Q nL σ k n (pc + 1) lv (.long (x <<< (y.toInt64 &&& 63)) :: st)) : Gk p l e R s m args below meth c d A Q nL σ k n pc lv (.int y :: .long x :: st) := fun H locs ls hH hS hP hl => lv_lshl E.x E.b hd rfl (kk H locs ls hH hS hP hl)
theorem r_i2l (E : Ev p s m args meth c own cc nL ret d A) {x : Int32} (hd : decode cc pc = .ok (.i2l, 1)) (kk : Gk p l e R s m args below meth c d A Q nL σ k n (pc + 1) lv (.long x.toInt64 :: st)) : Gk p l e R s m args below meth c d A Q nL σ k n pc lv (.int x :: st) := fun H locs ls hH hS hP hl => lv_i2l E.x E.b hd rfl (kk H locs ls hH hS hP hl)
theorem r_l2i (E : Ev p s m args meth c own cc nL ret d A) {x : Int64} (hd : decode cc pc = .ok (.l2i, 1)) (kk : Gk p l e R s m args below meth c d A Q nL σ k n (pc + 1) lv (.int x.toInt32 :: st)) : Gk p l e R s m args below meth c d A Q nL σ k n pc lv (.long x :: st) := fun H locs ls hH hS hP hl => lv_l2i E.x E.b hd rfl (kk H locs ls hH hS hP hl)
theorem r_lcmp (E : Ev p s m args meth c own cc nL ret d A) {x y : Int64} (hd : decode cc pc = .ok (.lcmp, 1)) (kk : Gk p l e R s m args below meth c d A Q nL σ k n (pc + 1) lv (.int (lg_cmp x y) :: st)) : Gk p l e R s m args below meth c d A Q nL σ k n pc lv (.long y :: .long x :: st) := fun H locs ls hH hS hP hl => W.lcmp E.x E.b hd (kk H locs ls hH hS hP hl)
theorem r_dup (E : Ev p s m args meth c own cc nL ret d A) {v : Value} (hd : decode cc pc = .ok (.dup, 1)) (h1 : v.category = 1) (kk : Gk p l e R s m args below meth c d A Q nL σ k n (pc + 1) lv (v :: v :: st)) : Gk p l e R s m args below meth c d A Q nL σ k n pc lv (v :: st) := fun H locs ls hH hS hP hl => lv_dup E.x E.b hd h1 (kk H locs ls hH hS hP hl)
theorem r_pop (E : Ev p s m args meth c own cc nL ret d A) {v : Value} (hd : decode cc pc = .ok (.pop, 1)) (h1 : v.category = 1) (kk : Gk p l e R s m args below meth c d A Q nL σ k n (pc + 1) lv st) : Gk p l e R s m args below meth c d A Q nL σ k n pc lv (v :: st) := fun H locs ls hH hS hP hl => lv_pop E.x E.b hd h1 (kk H locs ls hH hS hP hl)
theorem r_dup_x1 (E : Ev p s m args meth c own cc nL ret d A) {v v2 : Value} (hd : decode cc pc = .ok (.dup_x1, 1)) (h1 : v.category = 1) (h2 : v2.category = 1) (kk : Gk p l e R s m args below meth c d A Q nL σ k n (pc + 1) lv (v :: v2 :: v :: st)) : Gk p l e R s m args below meth c d A Q nL σ k n pc lv (v :: v2 :: st) := fun H locs ls hH hS hP hl => lv_dup_x1 E.x E.b hd h1 h2 (kk H locs ls hH hS hP hl)
theorem r_dup2 (E : Ev p s m args meth c own cc nL ret d A) {v v2 : Value} (hd : decode cc pc = .ok (.dup2, 1)) (h1 : v.category = 1) (h2 : v2.category = 1) (kk : Gk p l e R s m args below meth c d A Q nL σ k n (pc + 1) lv (v :: v2 :: v :: v2 :: st)) : Gk p l e R s m args below meth c d A Q nL σ k n pc lv (v :: v2 :: st) := fun H locs ls hH hS hP hl => lv_dup2_11 E.x E.b hd h1 h2 (kk H locs ls hH hS hP hl)
theorem r_goto (E : Ev p s m args meth c own cc nL ret d A) {off : Int} {tgt : Nat} (hd : decode cc pc = .ok (.goto off, 3)) (ht : (pc : Int) + off = (tgt : Int)) (kk : Gk p l e R s m args below meth c d A Q nL σ k n tgt lv st) : Gk p l e R s m args below meth c d A Q nL σ k n pc lv st := fun H locs ls hH hS hP hl => lv_goto E.x E.b hd ht (kk H locs ls hH hS hP hl)
theorem r_icmp_eq (E : Ev p s m args meth c own cc nL ret d A) {x y : Int32} {off : Int} {tgt : Nat} (hd : decode cc pc = .ok (.if_icmp .eq off, 3)) (ht : (pc : Int) + off = (tgt : Int)) (kt : x = y → Gk p l e R s m args below meth c d A Q nL σ k n tgt lv st) (kf : ¬ x = y → Gk p l e R s m args below meth c d A Q nL σ k n (pc + 3) lv st) : Gk p l e R s m args below meth c d A Q nL σ k n pc lv (.int y :: .int x :: st) := fun H locs ls hH hS hP hl => lv_icmp_eq E.x E.b hd ht (fun q => kt q H locs ls hH hS hP hl) (fun q => kf q H locs ls hH hS hP hl)
theorem r_if_eq (E : Ev p s m args meth c own cc nL ret d A) {x : Int32} {off : Int} {tgt : Nat} (hd : decode cc pc = .ok (.ifCond .eq off, 3)) (ht : (pc : Int) + off = (tgt : Int)) (kt : x = 0 → Gk p l e R s m args below meth c d A Q nL σ k n tgt lv st) (kf : ¬ x = 0 → Gk p l e R s m args below meth c d A Q nL σ k n (pc + 3) lv st) : Gk p l e R s m args below meth c d A Q nL σ k n pc lv (.int x :: st) := fun H locs ls hH hS hP hl => lv_if_eq E.x E.b hd ht (fun q => kt q H locs ls hH hS hP hl) (fun q => kf q H locs ls hH hS hP hl)
theorem r_icmp_ne (E : Ev p s m args meth c own cc nL ret d A) {x y : Int32} {off : Int} {tgt : Nat} (hd : decode cc pc = .ok (.if_icmp .ne off, 3)) (ht : (pc : Int) + off = (tgt : Int)) (kt : ¬ x = y → Gk p l e R s m args below meth c d A Q nL σ k n tgt lv st) (kf : x = y → Gk p l e R s m args below meth c d A Q nL σ k n (pc + 3) lv st) : Gk p l e R s m args below meth c d A Q nL σ k n pc lv (.int y :: .int x :: st) := fun H locs ls hH hS hP hl => lv_icmp_ne E.x E.b hd ht (fun q => kt q H locs ls hH hS hP hl) (fun q => kf q H locs ls hH hS hP hl)
theorem r_if_ne (E : Ev p s m args meth c own cc nL ret d A) {x : Int32} {off : Int} {tgt : Nat} (hd : decode cc pc = .ok (.ifCond .ne off, 3)) (ht : (pc : Int) + off = (tgt : Int)) (kt : ¬ x = 0 → Gk p l e R s m args below meth c d A Q nL σ k n tgt lv st) (kf : x = 0 → Gk p l e R s m args below meth c d A Q nL σ k n (pc + 3) lv st) : Gk p l e R s m args below meth c d A Q nL σ k n pc lv (.int x :: st) := fun H locs ls hH hS hP hl => lv_if_ne E.x E.b hd ht (fun q => kt q H locs ls hH hS hP hl) (fun q => kf q H locs ls hH hS hP hl)
theorem r_icmp_lt (E : Ev p s m args meth c own cc nL ret d A) {x y : Int32} {off : Int} {tgt : Nat} (hd : decode cc pc = .ok (.if_icmp .lt off, 3)) (ht : (pc : Int) + off = (tgt : Int)) (kt : x < y → Gk p l e R s m args below meth c d A Q nL σ k n tgt lv st) (kf : ¬ x < y → Gk p l e R s m args below meth c d A Q nL σ k n (pc + 3) lv st) : Gk p l e R s m args below meth c d A Q nL σ k n pc lv (.int y :: .int x :: st) := fun H locs ls hH hS hP hl => lv_icmp_lt E.x E.b hd ht (fun q => kt q H locs ls hH hS hP hl) (fun q => kf q H locs ls hH hS hP hl)
theorem r_if_lt (E : Ev p s m args meth c own cc nL ret d A) {x : Int32} {off : Int} {tgt : Nat} (hd : decode cc pc = .ok (.ifCond .lt off, 3)) (ht : (pc : Int) + off = (tgt : Int)) (kt : x < 0 → Gk p l e R s m args below meth c d A Q nL σ k n tgt lv st) (kf : ¬ x < 0 → Gk p l e R s m args below meth c d A Q nL σ k n (pc + 3) lv st) : Gk p l e R s m args below meth c d A Q nL σ k n pc lv (.int x :: st) := fun H locs ls hH hS hP hl => lv_if_lt E.x E.b hd ht (fun q => kt q H locs ls hH hS hP hl) (fun q => kf q H locs ls hH hS hP hl)
theorem r_icmp_ge (E : Ev p s m args meth c own cc nL ret d A) {x y : Int32} {off : Int} {tgt : Nat} (hd : decode cc pc = .ok (.if_icmp .ge off, 3)) (ht : (pc : Int) + off = (tgt : Int)) (kt : y ≤ x → Gk p l e R s m args below meth c d A Q nL σ k n tgt lv st) (kf : ¬ y ≤ x → Gk p l e R s m args below meth c d A Q nL σ k n (pc + 3) lv st) : Gk p l e R s m args below meth c d A Q nL σ k n pc lv (.int y :: .int x :: st) := fun H locs ls hH hS hP hl => lv_icmp_ge E.x E.b hd ht (fun q => kt q H locs ls hH hS hP hl) (fun q => kf q H locs ls hH hS hP hl)
theorem r_if_ge (E : Ev p s m args meth c own cc nL ret d A) {x : Int32} {off : Int} {tgt : Nat} (hd : decode cc pc = .ok (.ifCond .ge off, 3)) (ht : (pc : Int) + off = (tgt : Int)) (kt : 0 ≤ x → Gk p l e R s m args below meth c d A Q nL σ k n tgt lv st) (kf : ¬ 0 ≤ x → Gk p l e R s m args below meth c d A Q nL σ k n (pc + 3) lv st) : Gk p l e R s m args below meth c d A Q nL σ k n pc lv (.int x :: st) := fun H locs ls hH hS hP hl => lv_if_ge E.x E.b hd ht (fun q => kt q H locs ls hH hS hP hl) (fun q => kf q H locs ls hH hS hP hl)
theorem r_icmp_gt (E : Ev p s m args meth c own cc nL ret d A) {x y : Int32} {off : Int} {tgt : Nat} (hd : decode cc pc = .ok (.if_icmp .gt off, 3)) (ht : (pc : Int) + off = (tgt : Int)) (kt : y < x → Gk p l e R s m args below meth c d A Q nL σ k n tgt lv st) (kf : ¬ y < x → Gk p l e R s m args below meth c d A Q nL σ k n (pc + 3) lv st) : Gk p l e R s m args below meth c d A Q nL σ k n pc lv (.int y :: .int x :: st) := fun H locs ls hH hS hP hl => lv_icmp_gt E.x E.b hd ht (fun q => kt q H locs ls hH hS hP hl) (fun q => kf q H locs ls hH hS hP hl)
theorem r_if_gt (E : Ev p s m args meth c own cc nL ret d A) {x : Int32} {off : Int} {tgt : Nat} (hd : decode cc pc = .ok (.ifCond .gt off, 3)) (ht : (pc : Int) + off = (tgt : Int)) (kt : 0 < x → Gk p l e R s m args below meth c d A Q nL σ k n tgt lv st) (kf : ¬ 0 < x → Gk p l e R s m args below meth c d A Q nL σ k n (pc + 3) lv st) : Gk p l e R s m args below meth c d A Q nL σ k n pc lv (.int x :: st) := fun H locs ls hH hS hP hl => lv_if_gt E.x E.b hd ht (fun q => kt q H locs ls hH hS hP hl) (fun q => kf q H locs ls hH hS hP hl)
theorem r_icmp_le (E : Ev p s m args meth c own cc nL ret d A) {x y : Int32} {off : Int} {tgt : Nat} (hd : decode cc pc = .ok (.if_icmp .le off, 3)) (ht : (pc : Int) + off = (tgt : Int)) (kt : x ≤ y → Gk p l e R s m args below meth c d A Q nL σ k n tgt lv st) (kf : ¬ x ≤ y → Gk p l e R s m args below meth c d A Q nL σ k n (pc + 3) lv st) : Gk p l e R s m args below meth c d A Q nL σ k n pc lv (.int y :: .int x :: st) := fun H locs ls hH hS hP hl => lv_icmp_le E.x E.b hd ht (fun q => kt q H locs ls hH hS hP hl) (fun q => kf q H locs ls hH hS hP hl)
theorem r_if_le (E : Ev p s m args meth c own cc nL ret d A) {x : Int32} {off : Int} {tgt : Nat} (hd : decode cc pc = .ok (.ifCond .le off, 3)) (ht : (pc : Int) + off = (tgt : Int)) (kt : x ≤ 0 → Gk p l e R s m args below meth c d A Q nL σ k n tgt lv st) (kf : ¬ x ≤ 0 → Gk p l e R s m args below meth c d A Q nL σ k n (pc + 3) lv st) : Gk p l e R s m args below meth c d A Q nL σ k n pc lv (.int x :: st) := fun H locs ls hH hS hP hl => lv_if_le E.x E.b hd ht (fun q => kt q H locs ls hH hS hP hl) (fun q => kf q H locs ls hH hS hP hl)
theorem r_acmp_eq (E : Ev p s m args meth c own cc nL ret d A) {o1 o2 : Option Nat} {off : Int} {tgt : Nat} (hd : decode cc pc = .ok (.if_acmp .eq off, 3)) (ht : (pc : Int) + off = (tgt : Int)) (kt : o1 = o2 → Gk p l e R s m args below meth c d A Q nL σ k n tgt lv st) (kf : ¬ o1 = o2 → Gk p l e R s m args below meth c d A Q nL σ k n (pc + 3) lv st) : Gk p l e R s m args below meth c d A Q nL σ k n pc lv (va_rf o2 :: va_rf o1 :: st) := fun H locs ls hH hS hP hl => lv_acmp_eq E.x E.b hd ht (fun q => kt q H locs ls hH hS hP hl) (fun q => kf q H locs ls hH hS hP hl)
theorem r_acmp_ne (E : Ev p s m args meth c own cc nL ret d A) {o1 o2 : Option Nat} {off : Int} {tgt : Nat} (hd : decode cc pc = .ok (.if_acmp .ne off, 3)) (ht : (pc : Int) + off = (tgt : Int)) (kt : ¬ o1 = o2 → Gk p l e R s m args below meth c d A Q nL σ k n tgt lv st) (kf : o1 = o2 → Gk p l e R s m args below meth c d A Q nL σ k n (pc + 3) lv st) : Gk p l e R s m args below meth c d A Q nL σ k n pc lv (va_rf o2 :: va_rf o1 :: st) := fun H locs ls hH hS hP hl => lv_acmp_ne E.x E.b hd ht (fun q => kt q H locs ls hH hS hP hl) (fun q => kf q H locs ls hH hS hP hl)
theorem r_ifnull (E : Ev p s m args meth c own cc nL ret d A) {o : Option Nat} {off : Int} {tgt : Nat} (hd : decode cc pc = .ok (.ifnull off, 3)) (ht : (pc : Int) + off = (tgt : Int)) (kt : o = none → Gk p l e R s m args below meth c d A Q nL σ k n tgt lv st) (kf : ¬ o = none → Gk p l e R s m args below meth c d A Q nL σ k n (pc + 3) lv st) : Gk p l e R s m args below meth c d A Q nL σ k n pc lv (va_rf o :: st) := fun H locs ls hH hS hP hl => by
  cases o with
  | none => exact lv_ifnullN E.x E.b hd ht (kt rfl H locs ls hH hS hP hl)
  | some a => exact lv_ifnull E.x E.b hd (kf (fun q => by cases q) H locs ls hH hS hP hl)
theorem r_ifnonnull (E : Ev p s m args meth c own cc nL ret d A) {o : Option Nat} {off : Int} {tgt : Nat} (hd : decode cc pc = .ok (.ifnonnull off, 3)) (ht : (pc : Int) + off = (tgt : Int)) (kt : ¬ o = none → Gk p l e R s m args below meth c d A Q nL σ k n tgt lv st) (kf : o = none → Gk p l e R s m args below meth c d A Q nL σ k n (pc + 3) lv st) : Gk p l e R s m args below meth c d A Q nL σ k n pc lv (va_rf o :: st) := fun H locs ls hH hS hP hl => by
  cases o with
  | none => exact lv_ifnonnullN E.x E.b hd (kf rfl H locs ls hH hS hP hl)
  | some a => exact lv_ifnonnull E.x E.b hd ht (kt (fun q => by cases q) H locs ls hH hS hP hl)
theorem r_look (E : Ev p s m args meth c own cc nL ret d A) {df : Int} {ps : Array (Int × Int)} {len : Nat} {x : Int32} {off : Int} {tgt : Nat} (hd : decode cc pc = .ok (.lookupswitch df ps, len)) (hp : (ps.toList.zip (ps.toList.drop 1)).all (fun (a, next) => a.1 < next.1) = true) (ho : Op.lookupswitch.offset ps.toList df x.toInt = off) (ht : (pc : Int) + off = (tgt : Int)) (kk : Gk p l e R s m args below meth c d A Q nL σ k n tgt lv st) : Gk p l e R s m args below meth c d A Q nL σ k n pc lv (.int x :: st) := fun H locs ls hH hS hP hl => lv_lookup E.x E.b hd hp ho ht (kk H locs ls hH hS hP hl)
theorem r_tab (E : Ev p s m args meth c own cc nL ret d A) {df lo hi : Int} {offs : Array Int} {len : Nat} {x : Int32} {off : Int} {tgt : Nat} (hd : decode cc pc = .ok (.tableswitch df lo hi offs, len)) (ho : (if x.toInt < lo then df else if hi < x.toInt then df else offs.getD (x.toInt - lo).toNat df) = off) (hz : ¬ x.toInt < lo → ¬ hi < x.toInt → (x.toInt - lo).toNat < offs.size) (ht : (pc : Int) + off = (tgt : Int)) (kk : Gk p l e R s m args below meth c d A Q nL σ k n tgt lv st) : Gk p l e R s m args below meth c d A Q nL σ k n pc lv (.int x :: st) := fun H locs ls hH hS hP hl => by
  by_cases h1 : x.toInt < lo
  · rw [if_pos h1] at ho
    subst ho
    exact lv_tableOut E.x E.b hd (Or.inl h1) ht (kk H locs ls hH hS hP hl)
  · rw [if_neg h1] at ho
    by_cases h2 : hi < x.toInt
    · rw [if_pos h2] at ho
      subst ho
      exact lv_tableOut E.x E.b hd (Or.inr h2) ht (kk H locs ls hH hS hP hl)
    · rw [if_neg h2] at ho
      have h3 := hz h1 h2
      have h4 : offs[(x.toInt - lo).toNat]? = some off := by
        rw [← ho, Array.getElem?_eq_getElem h3]
        simp [Array.getD, h3]
      exact lv_tableIn E.x E.b hd h1 h2 h4 ht (kk H locs ls hH hS hP hl)
end GK
end
section
theorem p1 {D : va_G} {cl : List vw_C} {q : Nat × va_E} {H : Heap} (h : va_at D cl q H) : va_P D cl [q] H := fun k x hk => by
  have hz : k < 1 := (List.getElem?_eq_some_iff.mp hk).1
  rw [show k = 0 by omega] at hk
  cases hk
  exact h
theorem HW.up {d : Dp} {σ σ' : Sg} {a : Nat} {H H1 : Heap} (h : HW d σ H) (h1 : hs σ' = hs σ) (h2 : gc σ' = gc σ) (hz : H1.size = H.size) (oq : ∀ q : Nat, q ≠ a → H1[q]? = H[q]?) (hf : ∀ b, b ≠ a → ∀ c, fl c σ' b = fl c σ b) (hac : ∀ b, b ≠ a → ∀ c, ac c σ' b = ac c σ b) (he : ce d σ' a H1) : HW d σ' H1 := by
  refine ⟨by rw [hz, h1]; exact h.1, fun b hb => ?_⟩
  rw [h2] at hb
  obtain ⟨hlt, hce⟩ := h.2 b hb
  refine ⟨by rw [h1]; exact hlt, ?_⟩
  by_cases hba : b = a
  · subst hba
    exact he
  · refine ⟨fun ci hc hci => ?_, fun hc => ?_⟩
    · rw [h2] at hc
      rw [hf b hba]
      exact (hce.1 ci hc hci).kept (oq b hba)
    · rw [h2] at hc ⊢
      rw [hac b hba, oq b hba]
      exact hce.2 hc
theorem HW.grow {d : Dp} {σ σ' : Sg} {cls : Nat} {H H1 : Heap} (h : HW d σ H) (h1 : hs σ' = hs σ + 1) (h2 : gc σ' = u1 (gc σ) (hs σ) cls) (hz : H1.size = H.size + 1) (oq : ∀ q : Nat, q < H.size → H1[q]? = H[q]?) (hf : ∀ b, b ≠ hs σ → ∀ c, fl c σ' b = fl c σ b) (hac : ∀ b, b ≠ hs σ → ∀ c, ac c σ' b = ac c σ b) (he : ce d σ' (hs σ) H1) : HW d σ' H1 := by
  refine ⟨by rw [hz, h1, h.1], fun b hb => ?_⟩
  rw [h2] at hb
  by_cases hba : b = hs σ
  · subst hba
    exact ⟨by rw [h1]; omega, he⟩
  · simp only [u1, hba, if_false] at hb
    obtain ⟨hlt, hce⟩ := h.2 b hb
    have hq := oq b (by rw [h.1]; exact hlt)
    have hgb : gc σ' b = gc σ b := by rw [h2]; simp [u1, hba]
    refine ⟨by rw [h1]; omega, fun ci hc hci => ?_, fun hc => ?_⟩
    · rw [hgb] at hc
      rw [hf b hba]
      exact (hce.1 ci hc hci).kept hq
    · rw [hgb] at hc ⊢
      rw [hac b hba, hq]
      exact hce.2 hc
theorem fl_si {σ : Sg} {f a b : Nat} {x : Int32} (h : b ≠ a) (c : Nat) : fl c (si σ f a x) b = fl c σ b := by
  have e : ∀ j, gi (si σ f a x) j b = gi σ j b := fun j => by show (if j = f ∧ b = a then x else gi σ j b) = _; simp [h]
  unfold fl
  split <;> first | rfl | (simp only [e]; done) | (simp only [e]; rfl)
theorem fl_sj {σ : Sg} {f a b : Nat} {x : Int64} (h : b ≠ a) (c : Nat) : fl c (sj σ f a x) b = fl c σ b := by
  have e : ∀ j, gj (sj σ f a x) j b = gj σ j b := fun j => by show (if j = f ∧ b = a then x else gj σ j b) = _; simp [h]
  unfold fl
  split <;> first | rfl | (simp only [e]; done) | (simp only [e]; rfl)
theorem fl_sp {σ : Sg} {f a b : Nat} {x : Option Nat} (h : b ≠ a) (c : Nat) : fl c (sp σ f a x) b = fl c σ b := by
  have e : ∀ j, gp (sp σ f a x) j b = gp σ j b := fun j => by show (if j = f ∧ b = a then x else gp σ j b) = _; simp [h]
  unfold fl
  split <;> first | rfl | (simp only [e]; done) | (simp only [e]; rfl)
theorem fl_nw {σ : Sg} {b cls : Nat} (h : b ≠ hs σ) (c : Nat) : fl c (nw σ cls) b = fl c σ b := by
  have e1 : ∀ j, gi (nw σ cls) j b = gi σ j b := fun j => by show (if b = hs σ then 0 else gi σ j b) = _; simp [h]
  have e2 : ∀ j, gj (nw σ cls) j b = gj σ j b := fun j => by show (if b = hs σ then 0 else gj σ j b) = _; simp [h]
  have e3 : ∀ j, gp (nw σ cls) j b = gp σ j b := fun j => by show (if b = hs σ then none else gp σ j b) = _; simp [h]
  unfold fl
  split <;> simp only [e1, e2, e3]
theorem ac_wi {σ : Sg} {a i b : Nat} {x : Int32} (h : b ≠ a) (c : Nat) : ac c (wi σ a i x) b = ac c σ b := by
  have e : ai (wi σ a i x) b = ai σ b := by funext j; show (if b = a ∧ j = i then x else ai σ b j) = _; simp [h]
  unfold ac
  rw [e]
  rfl
theorem ac_wj {σ : Sg} {a i b : Nat} {x : Int64} (h : b ≠ a) (c : Nat) : ac c (wj σ a i x) b = ac c σ b := by
  have e : aj (wj σ a i x) b = aj σ b := by funext j; show (if b = a ∧ j = i then x else aj σ b j) = _; simp [h]
  unfold ac
  rw [e]
  rfl
theorem ac_wp {σ : Sg} {a i b : Nat} {x : Option Nat} (h : b ≠ a) (c : Nat) : ac c (wp σ a i x) b = ac c σ b := by
  have e : ap (wp σ a i x) b = ap σ b := by funext j; show (if b = a ∧ j = i then x else ap σ b j) = _; simp [h]
  unfold ac
  rw [e]
  rfl
theorem ac_wr {σ : Sg} {a b : Nat} {f : Nat → Option Nat} (h : b ≠ a) (c : Nat) : ac c (wr σ a f) b = ac c σ b := by
  have e : ap (wr σ a f) b = ap σ b := by show (if b = a then f else ap σ b) = _; simp [h]
  unfold ac
  rw [e]
  rfl
theorem ac_na {σ : Sg} {b cls N : Nat} (h : b ≠ hs σ) (c : Nat) : ac c (na σ cls N) b = ac c σ b := by
  have e0 : gl (na σ cls N) b = gl σ b := by show (if b = hs σ then N else gl σ b) = _; simp [h]
  have e1 : ai (na σ cls N) b = ai σ b := by show (if b = hs σ then (fun _ => 0) else ai σ b) = _; simp [h]
  have e2 : aj (na σ cls N) b = aj σ b := by show (if b = hs σ then (fun _ => 0) else aj σ b) = _; simp [h]
  have e3 : ap (na σ cls N) b = ap σ b := by show (if b = hs σ then (fun _ => none) else ap σ b) = _; simp [h]
  unfold ac
  rw [e0, e1, e2, e3]
theorem wi_at {σ : Sg} {a i : Nat} {x : Int32} : ai (wi σ a i x) a = upd (ai σ a) i x := by funext j; show (if a = a ∧ j = i then x else ai σ a j) = (if j = i then x else ai σ a j); simp
theorem wj_at {σ : Sg} {a i : Nat} {x : Int64} : aj (wj σ a i x) a = vp_updL (aj σ a) i x := by funext j; show (if a = a ∧ j = i then x else aj σ a j) = (if j = i then x else aj σ a j); simp
theorem wp_at {σ : Sg} {a i : Nat} {x : Option Nat} : ap (wp σ a i x) a = va_up (ap σ a) i x := by funext j; show (if a = a ∧ j = i then x else ap σ a j) = (if j = i then x else ap σ a j); simp

theorem fs_0 {σ : Sg} {a : Nat} {x : Int32} : fl 0 (si σ 0 a x) a = (fl 0 σ a).set 0 (Value.int x) := by simp [fl, gi, gj, gp, si, u2, List.set]
theorem fs_1 {σ : Sg} {a : Nat} {x : Option Nat} : fl 0 (sp σ 1 a x) a = (fl 0 σ a).set 1 (va_rf x) := by simp [fl, gi, gj, gp, sp, u2, List.set]
theorem fs_2 {σ : Sg} {a : Nat} {x : Int32} : fl 0 (si σ 2 a x) a = (fl 0 σ a).set 2 (Value.int x) := by simp [fl, gi, gj, gp, si, u2, List.set]
theorem fs_100 {σ : Sg} {a : Nat} {x : Option Nat} : fl 1 (sp σ 100 a x) a = (fl 1 σ a).set 0 (va_rf x) := by simp [fl, gi, gj, gp, sp, u2, List.set]
theorem fs_101 {σ : Sg} {a : Nat} {x : Int32} : fl 1 (si σ 101 a x) a = (fl 1 σ a).set 1 (Value.int x) := by simp [fl, gi, gj, gp, si, u2, List.set]
theorem fs_102 {σ : Sg} {a : Nat} {x : Option Nat} : fl 1 (sp σ 102 a x) a = (fl 1 σ a).set 2 (va_rf x) := by simp [fl, gi, gj, gp, sp, u2, List.set]
theorem fs_103 {σ : Sg} {a : Nat} {x : Option Nat} : fl 1 (sp σ 103 a x) a = (fl 1 σ a).set 3 (va_rf x) := by simp [fl, gi, gj, gp, sp, u2, List.set]
theorem fs_104 {σ : Sg} {a : Nat} {x : Int32} : fl 1 (si σ 104 a x) a = (fl 1 σ a).set 4 (Value.int x) := by simp [fl, gi, gj, gp, si, u2, List.set]
theorem fs_105 {σ : Sg} {a : Nat} {x : Option Nat} : fl 1 (sp σ 105 a x) a = (fl 1 σ a).set 5 (va_rf x) := by simp [fl, gi, gj, gp, sp, u2, List.set]
theorem fs_106 {σ : Sg} {a : Nat} {x : Option Nat} : fl 1 (sp σ 106 a x) a = (fl 1 σ a).set 6 (va_rf x) := by simp [fl, gi, gj, gp, sp, u2, List.set]
theorem fs_107 {σ : Sg} {a : Nat} {x : Option Nat} : fl 1 (sp σ 107 a x) a = (fl 1 σ a).set 7 (va_rf x) := by simp [fl, gi, gj, gp, sp, u2, List.set]
theorem fs_108 {σ : Sg} {a : Nat} {x : Option Nat} : fl 1 (sp σ 108 a x) a = (fl 1 σ a).set 8 (va_rf x) := by simp [fl, gi, gj, gp, sp, u2, List.set]
theorem fs_109 {σ : Sg} {a : Nat} {x : Int64} : fl 1 (sj σ 109 a x) a = (fl 1 σ a).set 9 (Value.long x) := by simp [fl, gi, gj, gp, sj, u2, List.set]
theorem fs_200 {σ : Sg} {a : Nat} {x : Option Nat} : fl 2 (sp σ 200 a x) a = (fl 2 σ a).set 0 (va_rf x) := by simp [fl, gi, gj, gp, sp, u2, List.set]
theorem fs_201 {σ : Sg} {a : Nat} {x : Option Nat} : fl 2 (sp σ 201 a x) a = (fl 2 σ a).set 1 (va_rf x) := by simp [fl, gi, gj, gp, sp, u2, List.set]
theorem fs_202 {σ : Sg} {a : Nat} {x : Option Nat} : fl 2 (sp σ 202 a x) a = (fl 2 σ a).set 2 (va_rf x) := by simp [fl, gi, gj, gp, sp, u2, List.set]
theorem fs_203 {σ : Sg} {a : Nat} {x : Option Nat} : fl 2 (sp σ 203 a x) a = (fl 2 σ a).set 3 (va_rf x) := by simp [fl, gi, gj, gp, sp, u2, List.set]
theorem fs_204 {σ : Sg} {a : Nat} {x : Option Nat} : fl 2 (sp σ 204 a x) a = (fl 2 σ a).set 4 (va_rf x) := by simp [fl, gi, gj, gp, sp, u2, List.set]
theorem fs_205 {σ : Sg} {a : Nat} {x : Option Nat} : fl 2 (sp σ 205 a x) a = (fl 2 σ a).set 5 (va_rf x) := by simp [fl, gi, gj, gp, sp, u2, List.set]
theorem fs_206 {σ : Sg} {a : Nat} {x : Option Nat} : fl 2 (sp σ 206 a x) a = (fl 2 σ a).set 6 (va_rf x) := by simp [fl, gi, gj, gp, sp, u2, List.set]
theorem fs_207 {σ : Sg} {a : Nat} {x : Int32} : fl 2 (si σ 207 a x) a = (fl 2 σ a).set 7 (Value.int x) := by simp [fl, gi, gj, gp, si, u2, List.set]
theorem fs_208 {σ : Sg} {a : Nat} {x : Int32} : fl 2 (si σ 208 a x) a = (fl 2 σ a).set 8 (Value.int x) := by simp [fl, gi, gj, gp, si, u2, List.set]
theorem fs_209 {σ : Sg} {a : Nat} {x : Int32} : fl 2 (si σ 209 a x) a = (fl 2 σ a).set 9 (Value.int x) := by simp [fl, gi, gj, gp, si, u2, List.set]
theorem fs_210 {σ : Sg} {a : Nat} {x : Int32} : fl 2 (si σ 210 a x) a = (fl 2 σ a).set 10 (Value.int x) := by simp [fl, gi, gj, gp, si, u2, List.set]
theorem fs_211 {σ : Sg} {a : Nat} {x : Int32} : fl 2 (si σ 211 a x) a = (fl 2 σ a).set 11 (Value.int x) := by simp [fl, gi, gj, gp, si, u2, List.set]
theorem fs_212 {σ : Sg} {a : Nat} {x : Int32} : fl 2 (si σ 212 a x) a = (fl 2 σ a).set 12 (Value.int x) := by simp [fl, gi, gj, gp, si, u2, List.set]
theorem fs_300 {σ : Sg} {a : Nat} {x : Int32} : fl 3 (si σ 300 a x) a = (fl 3 σ a).set 0 (Value.int x) := by simp [fl, gi, gj, gp, si, u2, List.set]
theorem fs_301 {σ : Sg} {a : Nat} {x : Int32} : fl 3 (si σ 301 a x) a = (fl 3 σ a).set 1 (Value.int x) := by simp [fl, gi, gj, gp, si, u2, List.set]
theorem fs_400 {σ : Sg} {a : Nat} {x : Int32} : fl 4 (si σ 400 a x) a = (fl 4 σ a).set 0 (Value.int x) := by simp [fl, gi, gj, gp, si, u2, List.set]
theorem fs_401 {σ : Sg} {a : Nat} {x : Int32} : fl 4 (si σ 401 a x) a = (fl 4 σ a).set 1 (Value.int x) := by simp [fl, gi, gj, gp, si, u2, List.set]
theorem fs_402 {σ : Sg} {a : Nat} {x : Int64} : fl 4 (sj σ 402 a x) a = (fl 4 σ a).set 2 (Value.long x) := by simp [fl, gi, gj, gp, sj, u2, List.set]
theorem fs_403 {σ : Sg} {a : Nat} {x : Int32} : fl 4 (si σ 403 a x) a = (fl 4 σ a).set 3 (Value.int x) := by simp [fl, gi, gj, gp, si, u2, List.set]
theorem fs_404 {σ : Sg} {a : Nat} {x : Int32} : fl 4 (si σ 404 a x) a = (fl 4 σ a).set 4 (Value.int x) := by simp [fl, gi, gj, gp, si, u2, List.set]
theorem fs_405 {σ : Sg} {a : Nat} {x : Int32} : fl 4 (si σ 405 a x) a = (fl 4 σ a).set 5 (Value.int x) := by simp [fl, gi, gj, gp, si, u2, List.set]
theorem fs_500 {σ : Sg} {a : Nat} {x : Option Nat} : fl 5 (sp σ 500 a x) a = (fl 5 σ a).set 0 (va_rf x) := by simp [fl, gi, gj, gp, sp, u2, List.set]
theorem fs_600 {σ : Sg} {a : Nat} {x : Int32} : fl 6 (si σ 600 a x) a = (fl 6 σ a).set 0 (Value.int x) := by simp [fl, gi, gj, gp, si, u2, List.set]
theorem fs_601 {σ : Sg} {a : Nat} {x : Int32} : fl 6 (si σ 601 a x) a = (fl 6 σ a).set 1 (Value.int x) := by simp [fl, gi, gj, gp, si, u2, List.set]
theorem fs_602 {σ : Sg} {a : Nat} {x : Int64} : fl 6 (sj σ 602 a x) a = (fl 6 σ a).set 2 (Value.long x) := by simp [fl, gi, gj, gp, sj, u2, List.set]
theorem fs_603 {σ : Sg} {a : Nat} {x : Option Nat} : fl 6 (sp σ 603 a x) a = (fl 6 σ a).set 3 (va_rf x) := by simp [fl, gi, gj, gp, sp, u2, List.set]
theorem fs_604 {σ : Sg} {a : Nat} {x : Option Nat} : fl 6 (sp σ 604 a x) a = (fl 6 σ a).set 4 (va_rf x) := by simp [fl, gi, gj, gp, sp, u2, List.set]
theorem fs_605 {σ : Sg} {a : Nat} {x : Int32} : fl 6 (si σ 605 a x) a = (fl 6 σ a).set 5 (Value.int x) := by simp [fl, gi, gj, gp, si, u2, List.set]
theorem fs_606 {σ : Sg} {a : Nat} {x : Option Nat} : fl 6 (sp σ 606 a x) a = (fl 6 σ a).set 6 (va_rf x) := by simp [fl, gi, gj, gp, sp, u2, List.set]
theorem fs_700 {σ : Sg} {a : Nat} {x : Option Nat} : fl 7 (sp σ 700 a x) a = (fl 7 σ a).set 0 (va_rf x) := by simp [fl, gi, gj, gp, sp, u2, List.set]
theorem fs_701 {σ : Sg} {a : Nat} {x : Option Nat} : fl 7 (sp σ 701 a x) a = (fl 7 σ a).set 1 (va_rf x) := by simp [fl, gi, gj, gp, sp, u2, List.set]
theorem fs_800 {σ : Sg} {a : Nat} {x : Option Nat} : fl 8 (sp σ 800 a x) a = (fl 8 σ a).set 0 (va_rf x) := by simp [fl, gi, gj, gp, sp, u2, List.set]
theorem fs_801 {σ : Sg} {a : Nat} {x : Option Nat} : fl 8 (sp σ 801 a x) a = (fl 8 σ a).set 1 (va_rf x) := by simp [fl, gi, gj, gp, sp, u2, List.set]
theorem fs_802 {σ : Sg} {a : Nat} {x : Option Nat} : fl 8 (sp σ 802 a x) a = (fl 8 σ a).set 2 (va_rf x) := by simp [fl, gi, gj, gp, sp, u2, List.set]
theorem fs_803 {σ : Sg} {a : Nat} {x : Option Nat} : fl 8 (sp σ 803 a x) a = (fl 8 σ a).set 3 (va_rf x) := by simp [fl, gi, gj, gp, sp, u2, List.set]
theorem fs_804 {σ : Sg} {a : Nat} {x : Int32} : fl 8 (si σ 804 a x) a = (fl 8 σ a).set 4 (Value.int x) := by simp [fl, gi, gj, gp, si, u2, List.set]
theorem fs_805 {σ : Sg} {a : Nat} {x : Option Nat} : fl 8 (sp σ 805 a x) a = (fl 8 σ a).set 5 (va_rf x) := by simp [fl, gi, gj, gp, sp, u2, List.set]
theorem fs_806 {σ : Sg} {a : Nat} {x : Option Nat} : fl 8 (sp σ 806 a x) a = (fl 8 σ a).set 6 (va_rf x) := by simp [fl, gi, gj, gp, sp, u2, List.set]
theorem fs_807 {σ : Sg} {a : Nat} {x : Option Nat} : fl 8 (sp σ 807 a x) a = (fl 8 σ a).set 7 (va_rf x) := by simp [fl, gi, gj, gp, sp, u2, List.set]
theorem fs_808 {σ : Sg} {a : Nat} {x : Option Nat} : fl 8 (sp σ 808 a x) a = (fl 8 σ a).set 8 (va_rf x) := by simp [fl, gi, gj, gp, sp, u2, List.set]
theorem fs_809 {σ : Sg} {a : Nat} {x : Int32} : fl 8 (si σ 809 a x) a = (fl 8 σ a).set 9 (Value.int x) := by simp [fl, gi, gj, gp, si, u2, List.set]
theorem fs_810 {σ : Sg} {a : Nat} {x : Option Nat} : fl 8 (sp σ 810 a x) a = (fl 8 σ a).set 10 (va_rf x) := by simp [fl, gi, gj, gp, sp, u2, List.set]
theorem fs_811 {σ : Sg} {a : Nat} {x : Int32} : fl 8 (si σ 811 a x) a = (fl 8 σ a).set 11 (Value.int x) := by simp [fl, gi, gj, gp, si, u2, List.set]
theorem fs_812 {σ : Sg} {a : Nat} {x : Option Nat} : fl 8 (sp σ 812 a x) a = (fl 8 σ a).set 12 (va_rf x) := by simp [fl, gi, gj, gp, sp, u2, List.set]
theorem fs_813 {σ : Sg} {a : Nat} {x : Int32} : fl 8 (si σ 813 a x) a = (fl 8 σ a).set 13 (Value.int x) := by simp [fl, gi, gj, gp, si, u2, List.set]
theorem fs_814 {σ : Sg} {a : Nat} {x : Option Nat} : fl 8 (sp σ 814 a x) a = (fl 8 σ a).set 14 (va_rf x) := by simp [fl, gi, gj, gp, sp, u2, List.set]
theorem fs_815 {σ : Sg} {a : Nat} {x : Option Nat} : fl 8 (sp σ 815 a x) a = (fl 8 σ a).set 15 (va_rf x) := by simp [fl, gi, gj, gp, sp, u2, List.set]
theorem fs_816 {σ : Sg} {a : Nat} {x : Option Nat} : fl 8 (sp σ 816 a x) a = (fl 8 σ a).set 16 (va_rf x) := by simp [fl, gi, gj, gp, sp, u2, List.set]
theorem fs_817 {σ : Sg} {a : Nat} {x : Option Nat} : fl 8 (sp σ 817 a x) a = (fl 8 σ a).set 17 (va_rf x) := by simp [fl, gi, gj, gp, sp, u2, List.set]
theorem fs_818 {σ : Sg} {a : Nat} {x : Int32} : fl 8 (si σ 818 a x) a = (fl 8 σ a).set 18 (Value.int x) := by simp [fl, gi, gj, gp, si, u2, List.set]
theorem fs_819 {σ : Sg} {a : Nat} {x : Int32} : fl 8 (si σ 819 a x) a = (fl 8 σ a).set 19 (Value.int x) := by simp [fl, gi, gj, gp, si, u2, List.set]
theorem fs_820 {σ : Sg} {a : Nat} {x : Int32} : fl 8 (si σ 820 a x) a = (fl 8 σ a).set 20 (Value.int x) := by simp [fl, gi, gj, gp, si, u2, List.set]
theorem fs_821 {σ : Sg} {a : Nat} {x : Int32} : fl 8 (si σ 821 a x) a = (fl 8 σ a).set 21 (Value.int x) := by simp [fl, gi, gj, gp, si, u2, List.set]
theorem fs_822 {σ : Sg} {a : Nat} {x : Int32} : fl 8 (si σ 822 a x) a = (fl 8 σ a).set 22 (Value.int x) := by simp [fl, gi, gj, gp, si, u2, List.set]
theorem fs_823 {σ : Sg} {a : Nat} {x : Int32} : fl 8 (si σ 823 a x) a = (fl 8 σ a).set 23 (Value.int x) := by simp [fl, gi, gj, gp, si, u2, List.set]
theorem fs_824 {σ : Sg} {a : Nat} {x : Int32} : fl 8 (si σ 824 a x) a = (fl 8 σ a).set 24 (Value.int x) := by simp [fl, gi, gj, gp, si, u2, List.set]
theorem fs_825 {σ : Sg} {a : Nat} {x : Int32} : fl 8 (si σ 825 a x) a = (fl 8 σ a).set 25 (Value.int x) := by simp [fl, gi, gj, gp, si, u2, List.set]
theorem fs_826 {σ : Sg} {a : Nat} {x : Int32} : fl 8 (si σ 826 a x) a = (fl 8 σ a).set 26 (Value.int x) := by simp [fl, gi, gj, gp, si, u2, List.set]
theorem fs_827 {σ : Sg} {a : Nat} {x : Int32} : fl 8 (si σ 827 a x) a = (fl 8 σ a).set 27 (Value.int x) := by simp [fl, gi, gj, gp, si, u2, List.set]

section HP
variable {p : Program} {l : Launch} {e : Env} {R : Room} {s : State} {m : MethodId} {args : Array Value} {below : List Frame} {meth : Method} {c : Code} {d : Dp} {A : Nat → Prop} {Q : State → Prop} {nL : Nat} {σ : Sg} {k n pc : Nat} {lv : List (Nat × Value)} {st : List Value} {own : String} {cc : ByteArray} {ret : Option FieldType}
theorem r_get (E : Ev p s m args meth c own cc nL ret d A) {ci j ix N a : Nat} {C rf : String} {T : u_T} {o : Option Nat} {v : Value} (hd : decode cc pc = .ok (.getfield ix, 3)) (hw : Cond.fieldLink own ix rf (T j).2.1 (T j).2.2.1 ∈ wsL_law) (hsame : ∀ x, s.fieldFound? (T j).1 (T j).2.1 (T j).2.2.1 = some x → s.fieldFound? rf (T j).2.1 (T j).2.2.1 = some x) (hc : vwCl[ci]? = some (C, T, N)) (hci : ci < 9) (hin : ∀ w ∈ u_ws C T N, w ∈ wsL_law) (hj : j < N) (ho : o = some a) (hg : gc σ a = ci + 1) (hv : (fl ci σ a)[j]? = some v) (kk : Gk p l e R s m args below meth c d A Q nL σ k n (pc + 3) lv (v :: st)) : Gk p l e R s m args below meth c d A Q nL σ k n pc lv (va_rf o :: st) := fun H locs ls hH hS hP hl => by
  subst ho
  have h1 := (hH.2 a (by omega)).2.1 ci hg hci
  exact va_get (ws := [(a, .inr (ci, fl ci σ a))]) E.x E.b E.ts hin E.ow E.K.1 (p1 h1) 0 rfl hc j hj (E.ts _ hw) hsame hv hd (kk H locs ls hH hS hP hl)
theorem r_put (E : Ev p s m args meth c own cc nL ret d A) {ci j ix N a : Nat} {C rf : String} {T : u_T} {o : Option Nat} {v : Value} {ty : FieldType} {σ' : Sg} (hd : decode cc pc = .ok (.putfield ix, 3)) (hw : Cond.fieldLink own ix rf (T j).2.1 (T j).2.2.1 ∈ wsL_law) (hsame : ∀ x, s.fieldFound? (T j).1 (T j).2.1 (T j).2.2.1 = some x → s.fieldFound? rf (T j).2.1 (T j).2.2.1 = some x) (hc : vwCl[ci]? = some (C, T, N)) (hci : ci < 9) (hin : ∀ w ∈ u_ws C T N, w ∈ wsL_law) (hj : j < N) (ty0 : Nat → FieldType) (hty : ∀ k, k < N → parseFieldDescriptor (T k).2.2.1 = some (ty0 k)) (hnm : ∀ a, a < N → ∀ b, b < N → a ≠ b → (T a).2.1 ≠ (T b).2.1) (hfin : (T j).2.2.2 = false) (hpd : parseFieldDescriptor (T j).2.2.1 = some ty) (hn : narrow ty v = v) (hfit : fits ty v = true) (ho : o = some a) (hg : gc σ a = ci + 1) (hl0 : j < (fl ci σ a).length) (h1 : hs σ' = hs σ) (h2 : gc σ' = gc σ) (hf : ∀ b, b ≠ a → ∀ c, fl c σ' b = fl c σ b) (hac : ∀ b c, ac c σ' b = ac c σ b) (hset : fl ci σ' a = (fl ci σ a).set j v) (kk : Gk p l e R s m args below meth c d A Q nL σ' k n (pc + 3) lv st) : Gk p l e R s m args below meth c d A Q nL σ k n pc lv (v :: va_rf o :: st) := fun H locs ls hH hS hP hl => by
  subst ho
  have hap := va_apart (own := own) E.ts hin ty0 hty hnm E.K.1 hc
  obtain ⟨r, h5, cell, q1, q2, q3, q4⟩ := (hH.2 a (by omega)).2.1 ci hg hci
  have hr : r = (C, T, N) := Option.some.inj (h5.symm.trans hc)
  subst hr
  obtain ⟨hSl, hfc, kC, hkC, hkind⟩ := E.K.1.1 ci _ hc
  obtain ⟨cf, kf, fi, f, hi, hsl⟩ := hSl j hj
  have hlay := E.ts _ (hin _ (u_in_lay hj))
  unfold u_lay at hlay
  rw [if_neg (by rw [hfin]; decide)] at hlay
  have hst := (u_facts hfc hkC (u_lays E.ts hin hj) hi).1
  have h6 := u_store hfc hkC hkind hlay hi hpd hn hfit
  refine W.putK E.x E.b (f := f) ⟨E.ow, E.ts _ hw, ⟨_, _, _, hsame _ hi⟩, hst⟩ (by rw [q2]; exact h6) q1 q3 (by rw [hsl]; exact k2_hasslot (q4 j hj)) rfl rfl hd fun H' e1 e2 e3 => ?_
  rw [hsl] at e1 ⊢
  refine kk H' _ ls ?_ (hS.put e2 e3 (hP a (by omega) (by omega))) (fun b h3 h4 => hP b (by rw [← h2]; exact h3) (by rw [← h2]; exact h4)) hl
  refine hH.up h1 h2 e2 e3 hf (fun b _ c => hac b c) ⟨fun ci2 hc2 hci2 => ?_, fun hc2 => ?_⟩
  · have e5 : ci2 = ci := by rw [h2, hg] at hc2; omega
    subst e5
    rw [hset]
    exact ⟨_, hc, t_OB.to (V := updV (vp_V (fl ci2 σ a)) j v) ⟨_, e1, q2, q3, t_set q4 hap hj v⟩ (fun i _ => vp_updV_set hl0 v i)⟩
  · rw [h2, hg] at hc2
    omega
theorem r_putF (E : Ev p s m args meth c own cc nL ret d A) {ci j ix N a : Nat} {C rf : String} {T : u_T} {o : Option Nat} {v : Value} {ty : FieldType} {σ' : Sg} (hd : decode cc pc = .ok (.putfield ix, 3)) (hw : Cond.fieldLink own ix rf (T j).2.1 (T j).2.2.1 ∈ wsL_law) (hsame : ∀ x, s.fieldFound? (T j).1 (T j).2.1 (T j).2.2.1 = some x → s.fieldFound? rf (T j).2.1 (T j).2.2.1 = some x) (hc : vwCl[ci]? = some (C, T, N)) (hci : ci < 9) (hin : ∀ w ∈ u_ws C T N, w ∈ wsL_law) (hj : j < N) (ty0 : Nat → FieldType) (hty : ∀ k, k < N → parseFieldDescriptor (T k).2.2.1 = some (ty0 k)) (hnm : ∀ a, a < N → ∀ b, b < N → a ≠ b → (T a).2.1 ≠ (T b).2.1) (hfin : (T j).2.2.2 = true) (hini : meth.name = "<init>") (hdecl : (T j).1 = own) (hpd : parseFieldDescriptor (T j).2.2.1 = some ty) (hn : narrow ty v = v) (hfit : fits ty v = true) (ho : o = some a) (hg : gc σ a = ci + 1) (hl0 : j < (fl ci σ a).length) (h1 : hs σ' = hs σ) (h2 : gc σ' = gc σ) (hf : ∀ b, b ≠ a → ∀ c, fl c σ' b = fl c σ b) (hac : ∀ b c, ac c σ' b = ac c σ b) (hset : fl ci σ' a = (fl ci σ a).set j v) (kk : Gk p l e R s m args below meth c d A Q nL σ' k n (pc + 3) lv st) : Gk p l e R s m args below meth c d A Q nL σ k n pc lv (v :: va_rf o :: st) := fun H locs ls hH hS hP hl => by
  subst ho
  have hap := va_apart (own := own) E.ts hin ty0 hty hnm E.K.1 hc
  obtain ⟨r, h5, cell, q1, q2, q3, q4⟩ := (hH.2 a (by omega)).2.1 ci hg hci
  have hr : r = (C, T, N) := Option.some.inj (h5.symm.trans hc)
  subst hr
  obtain ⟨hSl, hfc, kC, hkC, hkind⟩ := E.K.1.1 ci _ hc
  obtain ⟨cf, kf, fi, f, hi, hsl⟩ := hSl j hj
  have hlay := E.ts _ (hin _ (u_in_lay hj))
  unfold u_lay at hlay
  rw [if_pos hfin] at hlay
  have hst := (u_facts hfc hkC (u_lays E.ts hin hj) hi).1
  have hcf : m.cls = cf := by
    obtain ⟨_, _, c', _, _, _, -, -, hf', -, -, -, hown2, -⟩ := Cond.laysFinal_spec hlay
    have e1 : c' = cf := by have := hi.symm.trans hf'; simp at this; exact this.1.symm
    rw [hdecl] at hown2
    rw [← e1]; exact Option.some.inj (E.ow.symm.trans hown2)
  have h6 := u_fits hfc hkC hkind (Or.inr hlay) hi hpd hn hfit
  refine W.putFinK E.x E.b E.ow (E.ts _ hw) (hsame _ hi) hst hcf hini (by rw [q2]; exact h6) q1 q3 (by rw [hsl]; exact k2_hasslot (q4 j hj)) rfl rfl hd fun H' e1 e2 e3 => ?_
  rw [hsl] at e1 ⊢
  refine kk H' _ ls ?_ (hS.put e2 e3 (hP a (by omega) (by omega))) (fun b h3 h4 => hP b (by rw [← h2]; exact h3) (by rw [← h2]; exact h4)) hl
  refine hH.up h1 h2 e2 e3 hf (fun b _ c => hac b c) ⟨fun ci2 hc2 hci2 => ?_, fun hc2 => ?_⟩
  · have e5 : ci2 = ci := by rw [h2, hg] at hc2; omega
    subst e5
    rw [hset]
    exact ⟨_, hc, t_OB.to (V := updV (vp_V (fl ci2 σ a)) j v) ⟨_, e1, q2, q3, t_set q4 hap hj v⟩ (fun i _ => vp_updV_set hl0 v i)⟩
  · rw [h2, hg] at hc2
    omega
theorem r_new (E : Ev p s m args meth c own cc nL ret d A) {ci ix N : Nat} {C : String} {T : u_T} (hd : decode cc pc = .ok (.new ix, 3)) (w1 : Cond.classLink own ix C ∈ wsL_law) (w2 : Cond.instantiable C N ∈ wsL_law) (w3 : Cond.initialized C ∈ wsL_law) (hc : vwCl[ci]? = some (C, T, N)) (hci : ci < 9) (hin : ∀ w ∈ u_ws C T N, w ∈ wsL_law) (ty0 : Nat → FieldType) (hty : ∀ k, k < N → parseFieldDescriptor (T k).2.2.1 = some (ty0 k)) (hfs : ∀ j, j < N → defaultValue (ty0 j) = vp_V (fl ci (nw σ (ci + 1)) (hs σ)) j) (hR : k + 1 ≤ R.cells ∧ n + N ≤ R.slots) (kk : Gk p l e R s m args below meth c d A Q nL (nw σ (ci + 1)) (k + 1) (n + N) (pc + 3) lv (va_rf (some (hs σ)) :: st)) : Gk p l e R s m args below meth c d A Q nL σ k n pc lv st := fun H locs ls hH hS hP hl => by
  have hKn := E.K.1.1 ci _ hc
  refine W.newcK E.x E.b E.ow (E.ts _ w1) (E.ts _ w2) (E.ts _ w3) rfl hd hR.1 hR.2 hKn.2.1 rfl fun H1 kC hkC e1 z1 o1 => ?_
  have hgs : gc (nw σ (ci + 1)) (hs σ) = ci + 1 := by show (if hs σ = hs σ then ci + 1 else gc σ (hs σ)) = _; simp
  have hk := kk H1 locs ls ?_ ⟨Nat.le_trans hS.1 (by omega), fun x h1 h2 => (o1 x (Nat.lt_of_lt_of_le h1 hS.1)).trans (hS.2.1 x h1 h2), hS.2.2⟩ ?_ hl
  · rw [← hH.1] at hk
    exact hk
  · refine hH.grow rfl rfl z1 o1 (fun b hb c => fl_nw hb c) (fun _ _ _ => rfl) ⟨fun ci2 hc2 hci2 => ?_, fun hc2 => ?_⟩
    · have e5 : ci2 = ci := by rw [hgs] at hc2; omega
      subst e5
      rw [← hH.1]
      rw [hH.1] at e1 ⊢
      exact ⟨_, hc, (u_born ty0 E.ts hin hKn hkC e1 hty).to hfs⟩
    · rw [hgs] at hc2
      omega
  · intro b hb1 hb2
    by_cases hba : b = hs σ
    · subst hba
      exact E.fr _ (by rw [← hH.1]; exact hS.1)
    · have hgb : gc (nw σ (ci + 1)) b = gc σ b := by show (if b = hs σ then ci + 1 else gc σ b) = _; simp [hba]
      exact hP b (by rw [← hgb]; exact hb1) (by rw [← hgb]; exact hb2)
theorem HW.arr {d : Dp} {H : Heap} (hH : HW d σ H) {a : Nat} (hg : 10 ≤ gc σ a) : H[a]? = some (vp_cell (cA d (gc σ a)) (ac (gc σ a) σ a)) := (hH.2 a (by omega)).2.2 hg
theorem HW.arP {d : Dp} {H : Heap} (hH : HW d σ H) {a : Nat} (hg : 10 ≤ gc σ a) : va_P d.1 vwCl [(a, .inl (cA d (gc σ a), ac (gc σ a) σ a))] H := p1 (hH.arr hg)
theorem r_iald (E : Ev p s m args meth c own cc nL ret d A) {a : Nat} {o : Option Nat} {i : Int32} (hd : decode cc pc = .ok (.iaload, 1)) (ho : o = some a) (hg : gc σ a = 10) (hi : vp_in i (gl σ a)) (kk : Gk p l e R s m args below meth c d A Q nL σ k n (pc + 1) lv (.int (ai σ a i.toNatClampNeg) :: st)) : Gk p l e R s m args below meth c d A Q nL σ k n pc lv (.int i :: va_rf o :: st) := fun H locs ls hH hS hP hl => by
  subst ho
  have h1 := hH.arP (a := a) (by omega)
  rw [hg] at h1
  exact va_iald E.x E.b E.K.1 h1 0 0 rfl rfl hi hd (kk H locs ls hH hS hP hl)
theorem r_lald (E : Ev p s m args meth c own cc nL ret d A) {a : Nat} {o : Option Nat} {i : Int32} (hd : decode cc pc = .ok (.laload, 1)) (ho : o = some a) (hg : gc σ a = 11) (hi : vp_in i (gl σ a)) (kk : Gk p l e R s m args below meth c d A Q nL σ k n (pc + 1) lv (.long (aj σ a i.toNatClampNeg) :: st)) : Gk p l e R s m args below meth c d A Q nL σ k n pc lv (.int i :: va_rf o :: st) := fun H locs ls hH hS hP hl => by
  subst ho
  have h1 := hH.arP (a := a) (by omega)
  rw [hg] at h1
  exact va_lald E.x E.b E.K.1 h1 0 1 rfl rfl hi hd (kk H locs ls hH hS hP hl)
theorem r_aaldT (E : Ev p s m args meth c own cc nL ret d A) {a : Nat} {o : Option Nat} {i : Int32} (hd : decode cc pc = .ok (.aaload, 1)) (ho : o = some a) (hg : gc σ a = 12) (hi : vp_in i (gl σ a)) (kk : Gk p l e R s m args below meth c d A Q nL σ k n (pc + 1) lv (va_rf (ap σ a i.toNatClampNeg) :: st)) : Gk p l e R s m args below meth c d A Q nL σ k n pc lv (.int i :: va_rf o :: st) := fun H locs ls hH hS hP hl => by
  subst ho
  have h1 := hH.arP (a := a) (by omega)
  rw [hg] at h1
  exact va_aldq E.x E.b E.K.1 h1 0 2 rfl rfl hi hd (kk H locs ls hH hS hP hl)
theorem r_aaldO (E : Ev p s m args meth c own cc nL ret d A) {a : Nat} {o : Option Nat} {i : Int32} (hd : decode cc pc = .ok (.aaload, 1)) (ho : o = some a) (hg : gc σ a = 13) (hi : vp_in i (gl σ a)) (kk : Gk p l e R s m args below meth c d A Q nL σ k n (pc + 1) lv (va_rf (ap σ a i.toNatClampNeg) :: st)) : Gk p l e R s m args below meth c d A Q nL σ k n pc lv (.int i :: va_rf o :: st) := fun H locs ls hH hS hP hl => by
  subst ho
  have h1 := hH.arP (a := a) (by omega)
  rw [hg] at h1
  exact va_aldq E.x E.b E.K.1 h1 0 3 rfl rfl hi hd (kk H locs ls hH hS hP hl)
theorem r_alenI (E : Ev p s m args meth c own cc nL ret d A) {a : Nat} {o : Option Nat} (hd : decode cc pc = .ok (.arraylength, 1)) (ho : o = some a) (hg : gc σ a = 10) (kk : Gk p l e R s m args below meth c d A Q nL σ k n (pc + 1) lv (.int (Int32.ofNat (gl σ a)) :: st)) : Gk p l e R s m args below meth c d A Q nL σ k n pc lv (va_rf o :: st) := fun H locs ls hH hS hP hl => by
  subst ho
  have h1 := hH.arP (a := a) (by omega)
  rw [hg] at h1
  exact va_alen E.x E.b E.K.1 h1 0 0 rfl rfl (show Int32.ofNat (ac 10 σ a).1 = Int32.ofNat (gl σ a) from rfl) hd (kk H locs ls hH hS hP hl)
theorem r_alenJ (E : Ev p s m args meth c own cc nL ret d A) {a : Nat} {o : Option Nat} (hd : decode cc pc = .ok (.arraylength, 1)) (ho : o = some a) (hg : gc σ a = 11) (kk : Gk p l e R s m args below meth c d A Q nL σ k n (pc + 1) lv (.int (Int32.ofNat (gl σ a)) :: st)) : Gk p l e R s m args below meth c d A Q nL σ k n pc lv (va_rf o :: st) := fun H locs ls hH hS hP hl => by
  subst ho
  have h1 := hH.arP (a := a) (by omega)
  rw [hg] at h1
  exact va_alen E.x E.b E.K.1 h1 0 1 rfl rfl (show Int32.ofNat (ac 11 σ a).1 = Int32.ofNat (gl σ a) from rfl) hd (kk H locs ls hH hS hP hl)
theorem r_alenT (E : Ev p s m args meth c own cc nL ret d A) {a : Nat} {o : Option Nat} (hd : decode cc pc = .ok (.arraylength, 1)) (ho : o = some a) (hg : gc σ a = 12) (kk : Gk p l e R s m args below meth c d A Q nL σ k n (pc + 1) lv (.int (Int32.ofNat (gl σ a)) :: st)) : Gk p l e R s m args below meth c d A Q nL σ k n pc lv (va_rf o :: st) := fun H locs ls hH hS hP hl => by
  subst ho
  have h1 := hH.arP (a := a) (by omega)
  rw [hg] at h1
  exact va_alen E.x E.b E.K.1 h1 0 2 rfl rfl (show Int32.ofNat (ac 12 σ a).1 = Int32.ofNat (gl σ a) from rfl) hd (kk H locs ls hH hS hP hl)
theorem r_alenO (E : Ev p s m args meth c own cc nL ret d A) {a : Nat} {o : Option Nat} (hd : decode cc pc = .ok (.arraylength, 1)) (ho : o = some a) (hg : gc σ a = 13) (kk : Gk p l e R s m args below meth c d A Q nL σ k n (pc + 1) lv (.int (Int32.ofNat (gl σ a)) :: st)) : Gk p l e R s m args below meth c d A Q nL σ k n pc lv (va_rf o :: st) := fun H locs ls hH hS hP hl => by
  subst ho
  have h1 := hH.arP (a := a) (by omega)
  rw [hg] at h1
  exact va_alen E.x E.b E.K.1 h1 0 3 rfl rfl (show Int32.ofNat (ac 13 σ a).1 = Int32.ofNat (gl σ a) from rfl) hd (kk H locs ls hH hS hP hl)
theorem r_alenE (E : Ev p s m args meth c own cc nL ret d A) {a : Nat} {o : Option Nat} (hd : decode cc pc = .ok (.arraylength, 1)) (ho : o = some a) (hg : gc σ a = 14) (kk : Gk p l e R s m args below meth c d A Q nL σ k n (pc + 1) lv (.int (Int32.ofNat (gl σ a)) :: st)) : Gk p l e R s m args below meth c d A Q nL σ k n pc lv (va_rf o :: st) := fun H locs ls hH hS hP hl => by
  subst ho
  have h1 := hH.arP (a := a) (by omega)
  rw [hg] at h1
  exact va_alen E.x E.b E.K.1 h1 0 3 rfl rfl (show Int32.ofNat (ac 14 σ a).1 = Int32.ofNat (gl σ a) from rfl) hd (kk H locs ls hH hS hP hl)
theorem r_iast (E : Ev p s m args meth c own cc nL ret d A) {a : Nat} {o : Option Nat} {i : Int32} {x : Int32} (hd : decode cc pc = .ok (.iastore, 1)) (ho : o = some a) (hg : gc σ a = 10) (hi : vp_in i (gl σ a)) (kk : Gk p l e R s m args below meth c d A Q nL (wi σ a i.toNatClampNeg x) k n (pc + 1) lv st) : Gk p l e R s m args below meth c d A Q nL σ k n pc lv (.int x :: .int i :: va_rf o :: st) := fun H locs ls hH hS hP hl => by
  subst ho
  have h1 := hH.arr (a := a) (by omega)
  rw [hg] at h1
  refine W.iast E.x E.b h1 ((E.K.1.2 0 _ rfl).1 (gl σ a) (fun j => Value.int (ai σ a j))) (fun q => by cases q) (by show ¬ (i < 0 ∨ (arrV _ _ _).slots.size ≤ _); rw [arrV_size]; exact hi) rfl rfl hd fun H' e1 e2 e3 => ?_
  refine kk H' _ ls ?_ (hS.put e2 e3 (hP a (by omega) (by omega))) (fun b h3 h4 => hP b h3 h4) hl
  refine hH.up (a := a) rfl rfl e2 e3 (fun _ _ _ => rfl) (fun b hb c => ac_wi hb c) ⟨fun ci2 hc2 hci2 => ?_, fun hc2 => ?_⟩
  · have hc3 : gc σ a = ci2 + 1 := hc2
    omega
  · show H'[a]? = some (vp_cell (cA d (gc σ a)) (ac (gc σ a) (wi σ a i.toNatClampNeg x) a))
    rw [hg, e1]
    show some ((arrV (cA d 10) (gl σ a) _).setSlot _ _) = some (vp_cell (cA d 10) (gl σ a, .inl (ai (wi σ a i.toNatClampNeg x) a)))
    rw [arrV_store, wi_at, vp_cell_i]
    refine congrArg (fun z => some (arrV (cA d 10) (gl σ a) z)) ?_
    funext q
    by_cases hq : q = i.toNatClampNeg
    · subst hq
      simp [updV, upd, va_rf]
    · simp [updV, upd, hq]
theorem r_last (E : Ev p s m args meth c own cc nL ret d A) {a : Nat} {o : Option Nat} {i : Int32} {x : Int64} (hd : decode cc pc = .ok (.lastore, 1)) (ho : o = some a) (hg : gc σ a = 11) (hi : vp_in i (gl σ a)) (kk : Gk p l e R s m args below meth c d A Q nL (wj σ a i.toNatClampNeg x) k n (pc + 1) lv st) : Gk p l e R s m args below meth c d A Q nL σ k n pc lv (.long x :: .int i :: va_rf o :: st) := fun H locs ls hH hS hP hl => by
  subst ho
  have h1 := hH.arr (a := a) (by omega)
  rw [hg] at h1
  refine W.last E.x E.b h1 ((E.K.1.2 1 _ rfl).1 (gl σ a) (fun j => Value.long (aj σ a j))) (fun q => by cases q) (by show ¬ (i < 0 ∨ (arrV _ _ _).slots.size ≤ _); rw [arrV_size]; exact hi) rfl rfl hd fun H' e1 e2 e3 => ?_
  refine kk H' _ ls ?_ (hS.put e2 e3 (hP a (by omega) (by omega))) (fun b h3 h4 => hP b h3 h4) hl
  refine hH.up (a := a) rfl rfl e2 e3 (fun _ _ _ => rfl) (fun b hb c => ac_wj hb c) ⟨fun ci2 hc2 hci2 => ?_, fun hc2 => ?_⟩
  · have hc3 : gc σ a = ci2 + 1 := hc2
    omega
  · show H'[a]? = some (vp_cell (cA d (gc σ a)) (ac (gc σ a) (wj σ a i.toNatClampNeg x) a))
    rw [hg, e1]
    show some ((arrV (cA d 11) (gl σ a) _).setSlot _ _) = some (vp_cell (cA d 11) (gl σ a, .inr (.inl (aj (wj σ a i.toNatClampNeg x) a))))
    rw [arrV_store, wj_at, vp_cell_l]
    refine congrArg (fun z => some (arrV (cA d 11) (gl σ a) z)) ?_
    funext q
    by_cases hq : q = i.toNatClampNeg
    · subst hq
      simp [updV, vp_updL, va_rf]
    · simp [updV, vp_updL, hq]
theorem r_aastT (E : Ev p s m args meth c own cc nL ret d A) {a v : Nat} {o o2 : Option Nat} {i : Int32} (hd : decode cc pc = .ok (.aastore, 1)) (ho : o = some a) (hg : gc σ a = 12) (hi : vp_in i (gl σ a)) (ho2 : o2 = some v) (hgv : gc σ v = 7) (kk : Gk p l e R s m args below meth c d A Q nL (wp σ a i.toNatClampNeg o2) k n (pc + 1) lv st) : Gk p l e R s m args below meth c d A Q nL σ k n pc lv (va_rf o2 :: .int i :: va_rf o :: st) := fun H locs ls hH hS hP hl => by
  subst ho
  subst ho2
  have h1 := hH.arr (a := a) (by omega)
  rw [hg] at h1
  have h0 : ¬ i < 0 := fun q => hi (Or.inl q)
  have hlt : i.toNatClampNeg < gl σ a := Nat.not_le.mp fun q => hi (Or.inr q)
  have hcls := (E.K.1.1 6 _ rfl).2
  obtain ⟨kA, comp, k1, k2, k3, -⟩ := (E.K.1.2 2 _ rfl).2
  have hcomp : comp = d.1.1 6 := Option.some.inj (k3.symm.trans hcls.1)
  subst hcomp
  obtain ⟨kC, hkC, -⟩ := hcls.2
  have hkV := hkC
  obtain ⟨r', hr', cellV, g1, g2, g3, -⟩ := (hH.2 v (by omega)).2.1 6 hgv (by omega)
  have hasg : s.vm.assignable cellV.cls (d.1.1 6) = true := by rw [g2]; exact va_assign hcls
  refine W.aast E.x E.b h1 (fun q h => by cases h) (fun h => by cases h) k1 k2 rfl hkC ⟨h0, by show _ < (arrV _ _ _).slots.size; rw [arrV_size]; exact hlt⟩ g1 (fun q h => by rw [g3] at h; cases h) (by rw [g2]; exact hkV) hasg rfl rfl hd fun H' e1 e2 e3 => ?_
  refine kk H' _ ls ?_ (hS.put e2 e3 (hP a (by omega) (by omega))) (fun b h3 h4 => hP b h3 h4) hl
  refine hH.up (a := a) rfl rfl e2 e3 (fun _ _ _ => rfl) (fun b hb c => ac_wp hb c) ⟨fun ci2 hc2 hci2 => ?_, fun hc2 => ?_⟩
  · have hc3 : gc σ a = ci2 + 1 := hc2
    omega
  · show H'[a]? = some (vp_cell (cA d (gc σ a)) (ac (gc σ a) (wp σ a i.toNatClampNeg (some v)) a))
    rw [hg, e1]
    show some ((arrV (cA d 12) (gl σ a) _).setSlot _ _) = some (vp_cell (cA d 12) (gl σ a, .inr (.inr (.inr (.inr (ap (wp σ a i.toNatClampNeg (some v)) a))))))
    rw [arrV_store, wp_at, vp_cell_q]
    refine congrArg (fun z => some (arrV (cA d 12) (gl σ a) z)) ?_
    funext q
    by_cases hq : q = i.toNatClampNeg
    · subst hq
      simp [updV, va_up, va_rf]
    · simp [updV, va_up, hq]
theorem r_aastNT (E : Ev p s m args meth c own cc nL ret d A) {a : Nat} {o o2 : Option Nat} {i : Int32} (hd : decode cc pc = .ok (.aastore, 1)) (ho : o = some a) (hg : gc σ a = 12) (hi : vp_in i (gl σ a)) (ho2 : o2 = none) (kk : Gk p l e R s m args below meth c d A Q nL (wp σ a i.toNatClampNeg o2) k n (pc + 1) lv st) : Gk p l e R s m args below meth c d A Q nL σ k n pc lv (va_rf o2 :: .int i :: va_rf o :: st) := fun H locs ls hH hS hP hl => by
  subst ho
  subst ho2
  have h1 := hH.arr (a := a) (by omega)
  rw [hg] at h1
  refine va_WaastN (C := "FrameTalk$Thing") E.x E.b h1 ((E.K.1.2 2 _ rfl).1 (gl σ a) (fun j => va_rf (ap σ a j))) (fun h => by cases h) (by show ¬ (i < 0 ∨ (arrV _ _ _).slots.size ≤ _); rw [arrV_size]; exact hi) rfl rfl hd fun H' e1 e2 e3 => ?_
  refine kk H' _ ls ?_ (hS.put e2 e3 (hP a (by omega) (by omega))) (fun b h3 h4 => hP b h3 h4) hl
  refine hH.up (a := a) rfl rfl e2 e3 (fun _ _ _ => rfl) (fun b hb c => ac_wp hb c) ⟨fun ci2 hc2 hci2 => ?_, fun hc2 => ?_⟩
  · have hc3 : gc σ a = ci2 + 1 := hc2
    omega
  · show H'[a]? = some (vp_cell (cA d (gc σ a)) (ac (gc σ a) (wp σ a i.toNatClampNeg none) a))
    rw [hg, e1]
    show some ((arrV (cA d 12) (gl σ a) _).setSlot _ _) = some (vp_cell (cA d 12) (gl σ a, .inr (.inr (.inr (.inr (ap (wp σ a i.toNatClampNeg none) a))))))
    rw [arrV_store, wp_at, vp_cell_q]
    refine congrArg (fun z => some (arrV (cA d 12) (gl σ a) z)) ?_
    funext q
    by_cases hq : q = i.toNatClampNeg
    · subst hq
      simp [updV, va_up, va_rf]
    · simp [updV, va_up, hq]
theorem r_aastO (E : Ev p s m args meth c own cc nL ret d A) {a v : Nat} {o o2 : Option Nat} {i : Int32} (hd : decode cc pc = .ok (.aastore, 1)) (ho : o = some a) (hg : gc σ a = 13) (hi : vp_in i (gl σ a)) (ho2 : o2 = some v) (hgv : gc σ v = 5) (hob : ∀ comp : ClassId, s.vm.findClass "java/lang/Object" = some comp → ∃ kC : Class, s.vm.classes[comp]? = some kC) (kk : Gk p l e R s m args below meth c d A Q nL (wp σ a i.toNatClampNeg o2) k n (pc + 1) lv st) : Gk p l e R s m args below meth c d A Q nL σ k n pc lv (va_rf o2 :: .int i :: va_rf o :: st) := fun H locs ls hH hS hP hl => by
  subst ho
  subst ho2
  have h1 := hH.arr (a := a) (by omega)
  rw [hg] at h1
  have h0 : ¬ i < 0 := fun q => hi (Or.inl q)
  have hlt : i.toNatClampNeg < gl σ a := Nat.not_le.mp fun q => hi (Or.inr q)
  have hcls := (E.K.1.1 4 _ rfl).2
  obtain ⟨kA, comp, k1, k2, k3, -⟩ := (E.K.1.2 3 _ rfl).2
  obtain ⟨kV, hkV, -⟩ := hcls.2
  obtain ⟨c0, t0, f1, f2, f3⟩ := Cond.castable_spec (va_Nw.use (A := args) rfl E.K.2.2.2.2.2.2.2)
  have e7 : c0 = d.1.1 4 := Option.some.inj (f1.symm.trans hcls.1)
  have e8 : t0 = comp := Option.some.inj (f2.symm.trans k3)
  subst e7
  subst e8
  obtain ⟨r', hr', cellV, g1, g2, g3, -⟩ := (hH.2 v (by omega)).2.1 4 hgv (by omega)
  have hasg : s.vm.assignable cellV.cls t0 = true := by rw [g2]; exact f3
  obtain ⟨kC, hkC⟩ : ∃ kC : Class, s.vm.classes[t0]? = some kC := hob _ k3
  refine W.aast E.x E.b h1 (fun q h => by cases h) (fun h => by cases h) k1 k2 rfl hkC ⟨h0, by show _ < (arrV _ _ _).slots.size; rw [arrV_size]; exact hlt⟩ g1 (fun q h => by rw [g3] at h; cases h) (by rw [g2]; exact hkV) hasg rfl rfl hd fun H' e1 e2 e3 => ?_
  refine kk H' _ ls ?_ (hS.put e2 e3 (hP a (by omega) (by omega))) (fun b h3 h4 => hP b h3 h4) hl
  refine hH.up (a := a) rfl rfl e2 e3 (fun _ _ _ => rfl) (fun b hb c => ac_wp hb c) ⟨fun ci2 hc2 hci2 => ?_, fun hc2 => ?_⟩
  · have hc3 : gc σ a = ci2 + 1 := hc2
    omega
  · show H'[a]? = some (vp_cell (cA d (gc σ a)) (ac (gc σ a) (wp σ a i.toNatClampNeg (some v)) a))
    rw [hg, e1]
    show some ((arrV (cA d 13) (gl σ a) _).setSlot _ _) = some (vp_cell (cA d 13) (gl σ a, .inr (.inr (.inr (.inr (ap (wp σ a i.toNatClampNeg (some v)) a))))))
    rw [arrV_store, wp_at, vp_cell_q]
    refine congrArg (fun z => some (arrV (cA d 13) (gl σ a) z)) ?_
    funext q
    by_cases hq : q = i.toNatClampNeg
    · subst hq
      simp [updV, va_up, va_rf]
    · simp [updV, va_up, hq]
theorem r_aastNO (E : Ev p s m args meth c own cc nL ret d A) {a : Nat} {o o2 : Option Nat} {i : Int32} (hd : decode cc pc = .ok (.aastore, 1)) (ho : o = some a) (hg : gc σ a = 13) (hi : vp_in i (gl σ a)) (ho2 : o2 = none) (kk : Gk p l e R s m args below meth c d A Q nL (wp σ a i.toNatClampNeg o2) k n (pc + 1) lv st) : Gk p l e R s m args below meth c d A Q nL σ k n pc lv (va_rf o2 :: .int i :: va_rf o :: st) := fun H locs ls hH hS hP hl => by
  subst ho
  subst ho2
  have h1 := hH.arr (a := a) (by omega)
  rw [hg] at h1
  refine va_WaastN (C := "java/lang/Object") E.x E.b h1 ((E.K.1.2 3 _ rfl).1 (gl σ a) (fun j => va_rf (ap σ a j))) (fun h => by cases h) (by show ¬ (i < 0 ∨ (arrV _ _ _).slots.size ≤ _); rw [arrV_size]; exact hi) rfl rfl hd fun H' e1 e2 e3 => ?_
  refine kk H' _ ls ?_ (hS.put e2 e3 (hP a (by omega) (by omega))) (fun b h3 h4 => hP b h3 h4) hl
  refine hH.up (a := a) rfl rfl e2 e3 (fun _ _ _ => rfl) (fun b hb c => ac_wp hb c) ⟨fun ci2 hc2 hci2 => ?_, fun hc2 => ?_⟩
  · have hc3 : gc σ a = ci2 + 1 := hc2
    omega
  · show H'[a]? = some (vp_cell (cA d (gc σ a)) (ac (gc σ a) (wp σ a i.toNatClampNeg none) a))
    rw [hg, e1]
    show some ((arrV (cA d 13) (gl σ a) _).setSlot _ _) = some (vp_cell (cA d 13) (gl σ a, .inr (.inr (.inr (.inr (ap (wp σ a i.toNatClampNeg none) a))))))
    rw [arrV_store, wp_at, vp_cell_q]
    refine congrArg (fun z => some (arrV (cA d 13) (gl σ a) z)) ?_
    funext q
    by_cases hq : q = i.toNatClampNeg
    · subst hq
      simp [updV, va_up, va_rf]
    · simp [updV, va_up, hq]
theorem r_newaI (E : Ev p s m args meth c own cc nL ret d A) {i : Int32} (hd : decode cc pc = .ok (.newarray .int, 2)) (w1 : Cond.arrayClass (newarray.typeOf .int) ∈ wsL_law) (hn : ¬ i < 0) (hb : i.toNatClampNeg * componentBytes (newarray.typeOf .int) ≤ 536870912) (hR : k + 1 ≤ R.cells ∧ n + i.toNatClampNeg ≤ R.slots) (kk : Gk p l e R s m args below meth c d A Q nL (na σ 10 i.toNatClampNeg) (k + 1) (n + i.toNatClampNeg) (pc + 2) lv (va_rf (some (hs σ)) :: st)) : Gk p l e R s m args below meth c d A Q nL σ k n pc lv (.int i :: st) := fun H locs ls hH hS hP hl => by
  refine va_newaK E.x E.b (E.ts _ w1) rfl hd rfl hn rfl hb hR.1 hR.2 rfl fun H1 cA1 e1 z1 o1 hAr hNm => ?_
  have hcA : cA d 10 = cA1 := Option.some.inj ((E.K.1.2 0 _ rfl).2.symm.trans hNm)
  have hgs : gc (na σ 10 i.toNatClampNeg) (hs σ) = 10 := by show (if hs σ = hs σ then 10 else gc σ (hs σ)) = _; simp
  have hk := kk H1 locs ls ?_ ⟨Nat.le_trans hS.1 (by omega), fun x h1 h2 => (o1 x (Nat.lt_of_lt_of_le h1 hS.1)).trans (hS.2.1 x h1 h2), hS.2.2⟩ ?_ hl
  · rw [← hH.1] at hk
    exact hk
  · refine hH.grow rfl rfl z1 o1 (fun _ _ _ => rfl) (fun b hb c => ac_na hb c) ⟨fun ci2 hc2 hci2 => ?_, fun hc2 => ?_⟩
    · rw [hgs] at hc2
      omega
    · rw [hgs, ← hH.1, e1]
      have f0 : gl (na σ 10 i.toNatClampNeg) H.size = i.toNatClampNeg := by show (if H.size = hs σ then i.toNatClampNeg else gl σ H.size) = _; simp [hH.1]
      have f1 : ai (na σ 10 i.toNatClampNeg) H.size = (fun _ => (0 : Int32)) := by show (if H.size = hs σ then (fun _ => (0 : Int32)) else ai σ H.size) = _; simp [hH.1]
      show _ = some (vp_cell (cA d 10) (gl (na σ 10 i.toNatClampNeg) H.size, .inl (ai (na σ 10 i.toNatClampNeg) H.size)))
      rw [f0, f1, hcA]
      rfl
  · intro b hb1 hb2
    by_cases hba : b = hs σ
    · subst hba
      exact E.fr _ (by rw [← hH.1]; exact hS.1)
    · have hgb : gc (na σ 10 i.toNatClampNeg) b = gc σ b := by show (if b = hs σ then 10 else gc σ b) = _; simp [hba]
      exact hP b (by rw [← hgb]; exact hb1) (by rw [← hgb]; exact hb2)
theorem r_newaJ (E : Ev p s m args meth c own cc nL ret d A) {i : Int32} (hd : decode cc pc = .ok (.newarray .long, 2)) (w1 : Cond.arrayClass (newarray.typeOf .long) ∈ wsL_law) (hn : ¬ i < 0) (hb : i.toNatClampNeg * componentBytes (newarray.typeOf .long) ≤ 536870912) (hR : k + 1 ≤ R.cells ∧ n + i.toNatClampNeg ≤ R.slots) (kk : Gk p l e R s m args below meth c d A Q nL (na σ 11 i.toNatClampNeg) (k + 1) (n + i.toNatClampNeg) (pc + 2) lv (va_rf (some (hs σ)) :: st)) : Gk p l e R s m args below meth c d A Q nL σ k n pc lv (.int i :: st) := fun H locs ls hH hS hP hl => by
  refine va_newaK E.x E.b (E.ts _ w1) rfl hd rfl hn rfl hb hR.1 hR.2 rfl fun H1 cA1 e1 z1 o1 hAr hNm => ?_
  have hcA : cA d 11 = cA1 := Option.some.inj ((E.K.1.2 1 _ rfl).2.symm.trans hNm)
  have hgs : gc (na σ 11 i.toNatClampNeg) (hs σ) = 11 := by show (if hs σ = hs σ then 11 else gc σ (hs σ)) = _; simp
  have hk := kk H1 locs ls ?_ ⟨Nat.le_trans hS.1 (by omega), fun x h1 h2 => (o1 x (Nat.lt_of_lt_of_le h1 hS.1)).trans (hS.2.1 x h1 h2), hS.2.2⟩ ?_ hl
  · rw [← hH.1] at hk
    exact hk
  · refine hH.grow rfl rfl z1 o1 (fun _ _ _ => rfl) (fun b hb c => ac_na hb c) ⟨fun ci2 hc2 hci2 => ?_, fun hc2 => ?_⟩
    · rw [hgs] at hc2
      omega
    · rw [hgs, ← hH.1, e1]
      have f0 : gl (na σ 11 i.toNatClampNeg) H.size = i.toNatClampNeg := by show (if H.size = hs σ then i.toNatClampNeg else gl σ H.size) = _; simp [hH.1]
      have f1 : aj (na σ 11 i.toNatClampNeg) H.size = (fun _ => (0 : Int64)) := by show (if H.size = hs σ then (fun _ => (0 : Int64)) else aj σ H.size) = _; simp [hH.1]
      show _ = some (vp_cell (cA d 11) (gl (na σ 11 i.toNatClampNeg) H.size, .inr (.inl (aj (na σ 11 i.toNatClampNeg) H.size))))
      rw [f0, f1, hcA]
      rfl
  · intro b hb1 hb2
    by_cases hba : b = hs σ
    · subst hba
      exact E.fr _ (by rw [← hH.1]; exact hS.1)
    · have hgb : gc (na σ 11 i.toNatClampNeg) b = gc σ b := by show (if b = hs σ then 11 else gc σ b) = _; simp [hba]
      exact hP b (by rw [← hgb]; exact hb1) (by rw [← hgb]; exact hb2)
theorem r_anewT (E : Ev p s m args meth c own cc nL ret d A) {i : Int32} {ix : Nat} (hd : decode cc pc = .ok (.anewarray ix, 3)) (w1 : Cond.classLink own ix "FrameTalk$Thing" ∈ wsL_law) (hn : ¬ i < 0) (hb : i.toNatClampNeg * 4 ≤ 536870912) (hR : k + 1 ≤ R.cells ∧ n + i.toNatClampNeg ≤ R.slots) (kk : Gk p l e R s m args below meth c d A Q nL (na σ 12 i.toNatClampNeg) (k + 1) (n + i.toNatClampNeg) (pc + 3) lv (va_rf (some (hs σ)) :: st)) : Gk p l e R s m args below meth c d A Q nL σ k n pc lv (.int i :: st) := fun H locs ls hH hS hP hl => by
  refine W.anew E.x E.b E.ow (E.ts _ w1) (va_AO.use E.K.2.2.2.2.2.1) rfl hd rfl hn hb hR.1 hR.2 fun cA1 kA comp f1 f2 f3 f4 => ?_
  generalize hH1 : H.push ({ cls := cA1, slots := Array.replicate i.toNatClampNeg .null, vm := .none } : Cell) = H1
  have z1 : H1.size = H.size + 1 := by rw [← hH1, Array.size_push]
  have e1 : H1[H.size]? = some (arrV cA1 i.toNatClampNeg (fun _ => .null)) := by rw [← hH1, Array.getElem?_push_size, ← arrV_new]
  have o1 : ∀ q : Nat, q < H.size → H1[q]? = H[q]? := fun q hq => by rw [← hH1, Array.getElem?_push, if_neg (Nat.ne_of_lt hq)]
  have hcA : cA d 12 = cA1 := by
    obtain ⟨-, -, -, -, -, h4⟩ := (E.K.1.2 2 _ rfl).2
    exact Option.some.inj (h4.symm.trans f1)
  have hgs : gc (na σ 12 i.toNatClampNeg) (hs σ) = 12 := by show (if hs σ = hs σ then 12 else gc σ (hs σ)) = _; simp
  have hk := kk H1 locs ls ?_ ⟨Nat.le_trans hS.1 (by omega), fun x h1 h2 => (o1 x (Nat.lt_of_lt_of_le h1 hS.1)).trans (hS.2.1 x h1 h2), hS.2.2⟩ ?_ hl
  · rw [← hH.1] at hk
    exact hk
  · refine hH.grow rfl rfl z1 o1 (fun _ _ _ => rfl) (fun b hb c => ac_na hb c) ⟨fun ci2 hc2 hci2 => ?_, fun hc2 => ?_⟩
    · rw [hgs] at hc2
      omega
    · rw [hgs, ← hH.1, e1]
      have f0 : gl (na σ 12 i.toNatClampNeg) H.size = i.toNatClampNeg := by show (if H.size = hs σ then i.toNatClampNeg else gl σ H.size) = _; simp [hH.1]
      have f1 : ap (na σ 12 i.toNatClampNeg) H.size = (fun _ => (none : Option Nat)) := by show (if H.size = hs σ then (fun _ => (none : Option Nat)) else ap σ H.size) = _; simp [hH.1]
      show _ = some (vp_cell (cA d 12) (gl (na σ 12 i.toNatClampNeg) H.size, .inr (.inr (.inr (.inr (ap (na σ 12 i.toNatClampNeg) H.size))))))
      rw [f0, f1, hcA]
      rfl
  · intro b hb1 hb2
    by_cases hba : b = hs σ
    · subst hba
      exact E.fr _ (by rw [← hH.1]; exact hS.1)
    · have hgb : gc (na σ 12 i.toNatClampNeg) b = gc σ b := by show (if b = hs σ then 12 else gc σ b) = _; simp [hba]
      exact hP b (by rw [← hgb]; exact hb1) (by rw [← hgb]; exact hb2)
theorem r_anewO (E : Ev p s m args meth c own cc nL ret d A) {i : Int32} {ix : Nat} (hd : decode cc pc = .ok (.anewarray ix, 3)) (w1 : Cond.classLink own ix "java/lang/Object" ∈ wsL_law) (hn : ¬ i < 0) (hb : i.toNatClampNeg * 4 ≤ 536870912) (hR : k + 1 ≤ R.cells ∧ n + i.toNatClampNeg ≤ R.slots) (kk : Gk p l e R s m args below meth c d A Q nL (na σ 13 i.toNatClampNeg) (k + 1) (n + i.toNatClampNeg) (pc + 3) lv (va_rf (some (hs σ)) :: st)) : Gk p l e R s m args below meth c d A Q nL σ k n pc lv (.int i :: st) := fun H locs ls hH hS hP hl => by
  refine W.anew E.x E.b E.ow (E.ts _ w1) (va_AO.use E.K.2.2.2.2.2.2.1) rfl hd rfl hn hb hR.1 hR.2 fun cA1 kA comp f1 f2 f3 f4 => ?_
  generalize hH1 : H.push ({ cls := cA1, slots := Array.replicate i.toNatClampNeg .null, vm := .none } : Cell) = H1
  have z1 : H1.size = H.size + 1 := by rw [← hH1, Array.size_push]
  have e1 : H1[H.size]? = some (arrV cA1 i.toNatClampNeg (fun _ => .null)) := by rw [← hH1, Array.getElem?_push_size, ← arrV_new]
  have o1 : ∀ q : Nat, q < H.size → H1[q]? = H[q]? := fun q hq => by rw [← hH1, Array.getElem?_push, if_neg (Nat.ne_of_lt hq)]
  have hcA : cA d 13 = cA1 := by
    obtain ⟨-, -, -, -, -, h4⟩ := (E.K.1.2 3 _ rfl).2
    exact Option.some.inj (h4.symm.trans f1)
  have hgs : gc (na σ 13 i.toNatClampNeg) (hs σ) = 13 := by show (if hs σ = hs σ then 13 else gc σ (hs σ)) = _; simp
  have hk := kk H1 locs ls ?_ ⟨Nat.le_trans hS.1 (by omega), fun x h1 h2 => (o1 x (Nat.lt_of_lt_of_le h1 hS.1)).trans (hS.2.1 x h1 h2), hS.2.2⟩ ?_ hl
  · rw [← hH.1] at hk
    exact hk
  · refine hH.grow rfl rfl z1 o1 (fun _ _ _ => rfl) (fun b hb c => ac_na hb c) ⟨fun ci2 hc2 hci2 => ?_, fun hc2 => ?_⟩
    · rw [hgs] at hc2
      omega
    · rw [hgs, ← hH.1, e1]
      have f0 : gl (na σ 13 i.toNatClampNeg) H.size = i.toNatClampNeg := by show (if H.size = hs σ then i.toNatClampNeg else gl σ H.size) = _; simp [hH.1]
      have f1 : ap (na σ 13 i.toNatClampNeg) H.size = (fun _ => (none : Option Nat)) := by show (if H.size = hs σ then (fun _ => (none : Option Nat)) else ap σ H.size) = _; simp [hH.1]
      show _ = some (vp_cell (cA d 13) (gl (na σ 13 i.toNatClampNeg) H.size, .inr (.inr (.inr (.inr (ap (na σ 13 i.toNatClampNeg) H.size))))))
      rw [f0, f1, hcA]
      rfl
  · intro b hb1 hb2
    by_cases hba : b = hs σ
    · subst hba
      exact E.fr _ (by rw [← hH.1]; exact hS.1)
    · have hgb : gc (na σ 13 i.toNatClampNeg) b = gc σ b := by show (if b = hs σ then 13 else gc σ b) = _; simp [hba]
      exact hP b (by rw [← hgb]; exact hb1) (by rw [← hgb]; exact hb2)
theorem r_cast (E : Ev p s m args meth c own cc nL ret d A) {ci ix a N : Nat} {C : String} {T : u_T} {o : Option Nat} (hd : decode cc pc = .ok (.checkcast ix, 3)) (w1 : Cond.classLink own ix C ∈ wsL_law) (hc : vwCl[ci]? = some (C, T, N)) (hci : ci < 9) (ho : o = some a) (hg : gc σ a = ci + 1) (kk : Gk p l e R s m args below meth c d A Q nL σ k n (pc + 3) lv (va_rf o :: st)) : Gk p l e R s m args below meth c d A Q nL σ k n pc lv (va_rf o :: st) := fun H locs ls hH hS hP hl => by
  subst ho
  exact va_castS E.x E.b E.ow (E.ts _ w1) (E.K.1.1 ci _ hc).2 (va_recv E.K.1 (p1 ((hH.2 a (by omega)).2.1 ci hg hci)) hc (q0 := 0) rfl) hd (kk H locs ls hH hS hP hl)
theorem r_castN (E : Ev p s m args meth c own cc nL ret d A) {ix : Nat} {o : Option Nat} (hd : decode cc pc = .ok (.checkcast ix, 3)) (ho : o = none) (kk : Gk p l e R s m args below meth c d A Q nL σ k n (pc + 3) lv (va_rf o :: st)) : Gk p l e R s m args below meth c d A Q nL σ k n pc lv (va_rf o :: st) := fun H locs ls hH hS hP hl => by
  subst ho
  exact lv_castN E.x E.b hd (kk H locs ls hH hS hP hl)
theorem r_gets (E : Ev p s m args meth c own cc nL ret d A) {ix : Nat} (hd : decode cc pc = .ok (.getstatic ix, 3)) (w1 : Cond.fieldLink own ix "java/util/ArrayList" "DEFAULTCAPACITY_EMPTY_ELEMENTDATA" "[Ljava/lang/Object;" ∈ wsL_law) (kk : Gk p l e R s m args below meth c d A Q nL σ k n (pc + 3) lv (va_rf (some (dfl d)) :: st)) : Gk p l e R s m args below meth c d A Q nL σ k n pc lv st := fun H locs ls hH hS hP hl =>
  va_gets E.x E.b E.Z hS E.ow (E.ts _ w1) (fun _ h => h) hd (kk H locs ls hH hS hP hl)
theorem r_objInit (E : Ev p s m args meth c own cc nL ret d A) {ix : Nat} {o : Option Nat} {a : Nat} (hd : decode cc pc = .ok (.invokespecial ix, 3)) (w1 : Cond.methodLink own ix Lib.objectInit ∈ wsL_law) (w2 : Cond.instanceMethod Lib.objectInit ∈ wsL_law) (w3 : Cond.code Lib.objectInit ⟨#[0xb1]⟩ 1 none ∈ wsL_law) (ho : o = some a) (hR : 1 ≤ R.frames ∧ (st.map fun v => v.category).sum + 12 ≤ R.locals) (kk : Gk p l e R s m args below meth c d A Q nL σ k n (pc + 3) lv st) : Gk p l e R s m args below meth c d A Q nL σ k n pc lv (va_rf o :: st) := fun H locs ls hH hS hP hl => by
  subst ho
  exact W.objInit E.x E.b E.ow (E.ts _ w1) (E.ts _ w2) (E.ts _ w3) rfl (by rw [E.ml]; exact hl.1) rfl hd hR.1 (by show 2 * 0 + _ + 12 ≤ _; omega) (kk H locs ls hH hS hP hl)
def QQ (d : Dp) (σ0 : Sg) (r : Option Value) (σ' : Sg) : Array Value → State → Outcome → State → Prop := fun _ st oc t => oc = .returned r ∧ HW d σ' t.heap ∧ PA (AA σ0) σ' ∧ va_F (AA σ0) st t
def PP (d : Dp) (σ : Sg) (As : List Value) : Array Value → State → Prop := va_Pc As (fun U => HW d σ U.heap ∧ KU d U ∧ ZU d (AA σ) U U.heap)
/-- THE CONTRACT: from any heap that holds σ the method returns r, the heap then holds σ', k cells of n slots are new -/
def Mt (l : Launch) (d : Dp) (y : MethodName) (cc : ByteArray) (maxL : Nat) (ret : Option FieldType) (fr lo : Nat) (σ : Sg) (As : List Value) (r : Option Value) (σ' : Sg) (k n : Nat) : Prop :=
  Met l y (Cond.code y cc maxL ret :: wsL_law) { frames := fr, cells := k, slots := n, locals := lo } (PP d σ As) (QQ d σ r σ') k n (AA σ)
theorem PP.blind {As : List Value} : FrameBlind (PP d σ As) := fun a U g mk h => ⟨h.1, h.2.1, h.2.2.1.same rfl, h.2.2.2.moved (Vm.Alike.refl U.vm)⟩
theorem AAA {H : Heap} {locs : List Loc} (hA : ∀ q, s.heap.size ≤ q → A q) (hH : HW d σ H) (hS : va_S A s.heap H locs) (hP : PA A σ) : ∀ q, AA σ q → A q := fun q h => by
  rcases h with h | h
  · exact hP q h.1 h.2
  · exact hA q (Nat.le_trans hS.1 (by rw [hH.1]; exact h))
theorem PP.of (E : Ev p s m args meth c own cc nL ret d A) {H : Heap} {locs : List Loc} (hH : HW d σ H) (hS : va_S A s.heap H locs) (hP : PA A σ) {As : List Value} (U : State) (hU : U.heap = H) (hW : s.WarmedH U.vm) : PP d σ As As.toArray U :=
  ⟨rfl, by rw [hU]; exact hH, E.K.warm hW, by rw [hU]; exact ((E.Z.kept hS.2.1).narrow (AAA E.fr hH hS hP)).moved hW.alike⟩
theorem r_call (E : Ev p s m args meth c own cc nL ret d A) {k1 n1 : Nat} {r : Option Value} {σ1 : Sg} {rest : List Value} {a : Array Value} (run : ∀ (H : Heap) (locs : List Loc) (ls : Array Slot), HW d σ H → va_S A s.heap H locs → PA A σ → lv_has ls nL lv → va_Run p l e R s m args below meth c H locs k n k1 n1 (F0 m pc ls st) rest (QQ d σ r σ1 a) (AA σ)) (kk : Gk p l e R s m args below meth c d A Q nL σ1 (k + k1) (n + n1) (pc + 3) lv (r.toList ++ rest)) : Gk p l e R s m args below meth c d A Q nL σ k n pc lv st := by
  intro H locs ls hH hS hP hl T hT X
  obtain ⟨v, st₀, t, T', L, h0, X', hL, e1, e2, ⟨hv, hH1, hP1, hz, hk⟩, stp⟩ := run H locs ls hH hS hP hl T hT X
  cases hv
  rw [h0] at hz hk
  have hAA := AAA E.fr hH hS hP
  obtain ⟨t2, a1, b1⟩ := kk T'.heap (locs ++ L) ls (by rw [e1]; exact hH1) ⟨Nat.le_trans hS.1 (by rw [e1]; exact hz), fun q h1 h2 => by rw [e1, hk q (Nat.lt_of_lt_of_le h1 hS.1) (fun z => h2 (hAA q z))]; exact hS.2.1 q h1 h2, fun q hq => by
    rcases List.mem_append.mp hq with h | h
    · exact hS.2.2 q h
    · exact hAA _ (hL q h)⟩ (fun b h1 h2 => hAA b (hP1 b h1 h2)) hl T' rfl X'
  exact ⟨t2, stp t2 a1, b1⟩
theorem gdC {y : MethodName} {ccy : ByteArray} {maxL : Nat} {rt : Option FieldType} (w5 : Cond.code y ccy maxL rt ∈ wsL_law) {ex : List Cond} (hex : ∀ w ∈ ex, w ∈ wsL_law) : GoodIn wsL_law (ex ++ (Cond.code y ccy maxL rt :: wsL_law)) := fun w hw => by
  have hm : w ∈ wsL_law := by
    rcases List.mem_append.mp hw with h | h
    · exact hex w h
    · rcases List.mem_cons.mp h with h | h
      · rw [h]; exact w5
      · exact h
  exact ⟨hm, good_of_word (List.all_eq_true.mp gdL w hm)⟩
theorem r_cV (E : Ev p s m args meth c own cc nL ret d A) {ix fr lo k1 n1 maxL nA : Nat} {y : MethodName} {ccy : ByteArray} {rt : Option FieldType} {As rest : List Value} {r : Option Value} {σ1 : Sg} {ci N b : Nat} {C : String} {T : u_T} {o : Option Nat} (hM : Mt l d y ccy maxL rt fr lo σ (.ref b :: As) r σ1 k1 n1) (hd : decode cc pc = .ok (.invokevirtual ix, 3)) (w1 : Cond.methodLink own ix y ∈ wsL_law) (w2 : Cond.instanceMethod y ∈ wsL_law) (w3 : Cond.selects C y y ∈ wsL_law) (w4 : Cond.initialized C ∈ wsL_law) (w5 : Cond.code y ccy maxL rt ∈ wsL_law) (hyc : y.cls = C) (hy : y.cls ≠ "java/lang/invoke/MethodHandle" ∧ y.cls ≠ "java/lang/invoke/VarHandle" ∧ (parseMethodDescriptor y.desc).map (fun d => d.parameters.length) = some nA) (hna : As.length = nA) (hR : fr + 1 ≤ R.frames ∧ 8 + (maxL + 11) + lo ≤ R.locals) (hf : k + k1 ≤ R.cells ∧ n + n1 ≤ R.slots) (hc : vwCl[ci]? = some (C, T, N)) (hci : ci < 9) (ho : o = some b) (hg : gc σ b = ci + 1) (hst : st = As.reverse ++ va_rf o :: rest) (hcat : (rest.map fun v => v.category).sum ≤ 8) (kk : Gk p l e R s m args below meth c d A Q nL σ1 (k + k1) (n + n1) (pc + 3) lv (r.toList ++ rest)) : Gk p l e R s m args below meth c d A Q nL σ k n pc lv st := by
  subst ho
  refine r_call E (a := (Value.ref b :: As).toArray) (fun H locs ls hH hS hP hl => ?_) kk
  refine va_runV (As := As) (rest := rest) ⟨E.x, E.b, E.ml, E.ow, E.ts⟩ hM (cwV nA E.ts (gdC w5 (ex := [.methodLink own ix y, .instanceMethod y, .selects C y y, .initialized C]) ?_) rfl rfl rfl ⟨hyc, hy⟩ hR) ⟨PP.blind, va_recv E.K.1 (p1 ((hH.2 b (by omega)).2.1 ci hg hci)) hc (q0 := 0) rfl, fun U hU hW => PP.of E hH hS hP U hU hW⟩ rfl hna hl.1 hst (lv_room hcat) hd hf
  intro w hw
  simp only [List.mem_cons, List.not_mem_nil, or_false] at hw
  rcases hw with rfl | rfl | rfl | rfl <;> assumption
theorem r_cS (E : Ev p s m args meth c own cc nL ret d A) {ix fr lo k1 n1 maxL nA : Nat} {y : MethodName} {ccy : ByteArray} {rt : Option FieldType} {As rest : List Value} {r : Option Value} {σ1 : Sg} (hM : Mt l d y ccy maxL rt fr lo σ As r σ1 k1 n1) (hd : decode cc pc = .ok (.invokestatic ix, 3)) (w1 : Cond.methodLink own ix y ∈ wsL_law) (w2 : Cond.static y ∈ wsL_law) (w4 : Cond.initialized y.cls ∈ wsL_law) (w5 : Cond.code y ccy maxL rt ∈ wsL_law) (hy : y.cls ≠ "java/lang/invoke/MethodHandle" ∧ y.cls ≠ "java/lang/invoke/VarHandle" ∧ (parseMethodDescriptor y.desc).map (fun d => d.parameters.length) = some nA) (hna : As.length = nA) (hR : fr + 1 ≤ R.frames ∧ 8 + (maxL + 11) + lo ≤ R.locals) (hf : k + k1 ≤ R.cells ∧ n + n1 ≤ R.slots) (hst : st = As.reverse ++ rest) (hcat : (rest.map fun v => v.category).sum ≤ 8) (kk : Gk p l e R s m args below meth c d A Q nL σ1 (k + k1) (n + n1) (pc + 3) lv (r.toList ++ rest)) : Gk p l e R s m args below meth c d A Q nL σ k n pc lv st := by
  refine r_call E (a := As.toArray) (fun H locs ls hH hS hP hl => ?_) kk
  refine va_runS (As := As) (rest := rest) ⟨E.x, E.b, E.ml, E.ow, E.ts⟩ hM (va_cwS nA E.ts (gdC w5 (ex := [.methodLink own ix y, .static y, .initialized y.cls]) ?_) rfl rfl rfl hy hR) ⟨PP.blind, fun U hU hW => PP.of E hH hS hP U hU hW⟩ rfl hna hl.1 hst (lv_room hcat) hd hf
  intro w hw
  simp only [List.mem_cons, List.not_mem_nil, or_false] at hw
  rcases hw with rfl | rfl | rfl <;> assumption
theorem r_cI (E : Ev p s m args meth c own cc nL ret d A) {ix fr lo k1 n1 maxL nA : Nat} {y : MethodName} {ccy : ByteArray} {As rest : List Value} {r : Option Value} {σ1 : Sg} {b : Nat} {o : Option Nat} (hM : Mt l d y ccy maxL none fr lo σ (.ref b :: As) r σ1 k1 n1) (hd : decode cc pc = .ok (.invokespecial ix, 3)) (w1 : Cond.methodLink own ix y ∈ wsL_law) (w2 : Cond.instanceMethod y ∈ wsL_law) (w4 : Cond.initialized y.cls ∈ wsL_law) (w5 : Cond.code y ccy maxL none ∈ wsL_law) (hyn : y.name = "<init>") (hy : y.cls ≠ "java/lang/invoke/MethodHandle" ∧ y.cls ≠ "java/lang/invoke/VarHandle" ∧ (parseMethodDescriptor y.desc).map (fun d => d.parameters.length) = some nA) (hna : As.length = nA) (hR : fr + 1 ≤ R.frames ∧ 8 + (maxL + 11) + lo ≤ R.locals) (hf : k + k1 ≤ R.cells ∧ n + n1 ≤ R.slots) (ho : o = some b) (hst : st = As.reverse ++ va_rf o :: rest) (hcat : (rest.map fun v => v.category).sum ≤ 8) (kk : Gk p l e R s m args below meth c d A Q nL σ1 (k + k1) (n + n1) (pc + 3) lv (r.toList ++ rest)) : Gk p l e R s m args below meth c d A Q nL σ k n pc lv st := by
  subst ho
  refine r_call E (a := (Value.ref b :: As).toArray) (fun H locs ls hH hS hP hl => ?_) kk
  exact va_runI (As := As) (rest := rest) ⟨E.x, E.b, E.ml, E.ow, E.ts⟩ hM (cwI nA E.ts (gdC w5 (ex := []) (fun w hw => by cases hw)) rfl rfl rfl (E.ts _ w4) (E.ts _ w1) (E.ts _ w2) hyn hy hR) ⟨PP.blind, fun U hU hW => PP.of E hH hS hP U hU hW⟩ rfl hna hl.1 hst (lv_room hcat) hd hf
theorem r_cN (E : Ev p s m args meth c own cc nL ret d A) {ix fr lo k1 n1 maxL nA : Nat} {y : MethodName} {ccy : ByteArray} {As rest : List Value} {r : Option Value} {σ1 : Sg} {b : Nat} {o : Option Nat} {host : String} (hM : Mt l d y ccy maxL none fr lo σ (.ref b :: As) r σ1 k1 n1) (hd : decode cc pc = .ok (.invokespecial ix, 3)) (w1 : va_Nw (.methodLinkNest own ix y host) s) (w2 : Cond.instanceMethod y ∈ wsL_law) (w4 : Cond.initialized y.cls ∈ wsL_law) (w5 : Cond.code y ccy maxL none ∈ wsL_law) (hyn : y.name = "<init>") (hy : y.cls ≠ "java/lang/invoke/MethodHandle" ∧ y.cls ≠ "java/lang/invoke/VarHandle" ∧ (parseMethodDescriptor y.desc).map (fun d => d.parameters.length) = some nA) (hna : As.length = nA) (hR : fr + 1 ≤ R.frames ∧ 8 + (maxL + 11) + lo ≤ R.locals) (hf : k + k1 ≤ R.cells ∧ n + n1 ≤ R.slots) (ho : o = some b) (hst : st = As.reverse ++ va_rf o :: rest) (hcat : (rest.map fun v => v.category).sum ≤ 8) (kk : Gk p l e R s m args below meth c d A Q nL σ1 (k + k1) (n + n1) (pc + 3) lv (r.toList ++ rest)) : Gk p l e R s m args below meth c d A Q nL σ k n pc lv st := by
  subst ho
  refine r_call E (a := (Value.ref b :: As).toArray) (fun H locs ls hH hS hP hl => ?_) kk
  exact va_runIN (As := As) (rest := rest) ⟨E.x, E.b, E.ml, E.ow, E.ts⟩ hM ⟨va_cnB nA E.ts (gdC w5 (ex := []) (fun w hw => by cases hw)) rfl rfl rfl w1 (E.ts _ w4) hy hR, hyn, E.ts _ w2⟩ ⟨PP.blind, fun U hU hW => PP.of E hH hS hP U hU hW⟩ rfl hna hl.1 hst (lv_room hcat) hd hf
end HP
section RT
variable {p : Program} {l : Launch} {e : Env} {R : Room} {s : State} {m : MethodId} {args : Array Value} {below : List Frame} {meth : Method} {c : Code} {d : Dp} {nL : Nat} {σ σ0 : Sg} {k n pc : Nat} {lv : List (Nat × Value)} {own : String} {cc : ByteArray}
theorem r_iret (E : Ev p s m args meth c own cc nL (some .int) d (AA σ0)) {v : Int32} (hd : decode cc pc = .ok (.ireturn, 1)) : Gk p l e R s m args below meth c d (AA σ0) (MQ below (QQ d σ0 (some (.int v)) σ) args s k n (AA σ0)) nL σ k n pc lv [.int v] := fun H locs ls hH hS hP hl => W.iret E.x E.b E.rt (fun t ht hW => ⟨rfl, by rw [ht]; exact hH, hP, hS.F ht⟩) hS.2.2 hd E.lk
theorem r_zret (E : Ev p s m args meth c own cc nL (some .boolean) d (AA σ0)) {v : Int32} (hd : decode cc pc = .ok (.ireturn, 1)) (hn : narrow .boolean (.int v) = .int v) : Gk p l e R s m args below meth c d (AA σ0) (MQ below (QQ d σ0 (some (.int v)) σ) args s k n (AA σ0)) nL σ k n pc lv [.int v] := fun H locs ls hH hS hP hl => W.zret E.x E.b E.rt hn (fun t ht hW => ⟨rfl, by rw [ht]; exact hH, hP, hS.F ht⟩) hS.2.2 hd E.lk
theorem r_lret (E : Ev p s m args meth c own cc nL (some .long) d (AA σ0)) {v : Int64} (hd : decode cc pc = .ok (.lreturn, 1)) : Gk p l e R s m args below meth c d (AA σ0) (MQ below (QQ d σ0 (some (.long v)) σ) args s k n (AA σ0)) nL σ k n pc lv [.long v] := fun H locs ls hH hS hP hl => W.lret E.x E.b E.rt (fun t ht hW => ⟨rfl, by rw [ht]; exact hH, hP, hS.F ht⟩) hS.2.2 hd E.lk
theorem r_vret (E : Ev p s m args meth c own cc nL (none) d (AA σ0)) (hd : decode cc pc = .ok (.return_, 1)) : Gk p l e R s m args below meth c d (AA σ0) (MQ below (QQ d σ0 (none) σ) args s k n (AA σ0)) nL σ k n pc lv [] := fun H locs ls hH hS hP hl => W.vret E.x E.b E.rt (fun t ht hW => ⟨rfl, by rw [ht]; exact hH, hP, hS.F ht⟩) hS.2.2 hd E.lk
theorem r_aret {rt : FieldType} (E : Ev p s m args meth c own cc nL (some rt) d (AA σ0)) {o : Option Nat} (hd : decode cc pc = .ok (.areturn, 1)) (hrt : (∃ n, rt = .object n) ∨ ∃ t, rt = .array t) : Gk p l e R s m args below meth c d (AA σ0) (MQ below (QQ d σ0 (some (va_rf o)) σ) args s k n (AA σ0)) nL σ k n pc lv [va_rf o] := fun H locs ls hH hS hP hl => W.aret E.x E.b E.rt hrt (va_rf_or o) (fun t ht hW => ⟨rfl, by rw [ht]; exact hH, hP, hS.F ht⟩) hS.2.2 hd E.lk
theorem mt_start {y : MethodName} {maxL fr lo : Nat} {ret : Option FieldType} {As : List Value} {r : Option Value} {σ' : Sg} {lv0 : List (Nat × Value)} (hy : plainName y.cls = true) (hyc : y.cls = own) (hlen : (lg_sl As).length ≤ maxL) (hlv : lv_args 0 As = lv0)
    (body : ∀ p e s m args below meth c, Ev p s m args meth c own cc maxL ret d (AA σ) → meth.name = y.name → Gk p l e { frames := fr, cells := k, slots := n, locals := lo } s m args below meth c d (AA σ) (MQ below (QQ d σ r σ') args s k n (AA σ)) maxL σ 0 0 0 lv0 []) : Mt l d y cc maxL ret fr lo σ As r σ' k n := by
  refine Met.ofW (cc := cc) (maxL := maxL) (ret := ret) hy rfl ?_
  intro p e s m args below meth c s₁ B hml hv
  obtain ⟨rfl, hH, hK, hZ⟩ := hv
  have hts := atoms_spec (ws := Cond.code y cc maxL ret :: wsL_law) B.pre
  rw [lg_entry_eq]
  subst hlv
  subst hyc
  exact body p e s m _ below meth c ⟨B.exec, B.bytes, hml, findClass_of_methodNamed B.named, fun w hw => hts w (List.mem_cons_of_mem _ hw), hK, fun q hq => Or.inr (by rw [← hH.1]; exact hq), B.returns, B.notSynchronized, hZ⟩ (name_of_methodNamed B.named B.method).1 s.heap [] _ hH va_S.rf (fun a h1 h2 => Or.inl ⟨h1, h2⟩) (lv_entry As hlen)
end RT
end
section
theorem gc_nw {σ : Sg} {cls : Nat} : gc (nw σ cls) (hs σ) = cls := by show (if hs σ = hs σ then cls else _) = _; simp
theorem gc_na {σ : Sg} {cls N : Nat} : gc (na σ cls N) (hs σ) = cls := by show (if hs σ = hs σ then cls else _) = _; simp
def b2 {α β γ : Type} (o : Option (α × β)) (f : α → β → Option γ) : Option γ := match o with
  | none => none
  | some (a, b) => f a b
def b4 {α β γ δ ε : Type} (o : Option (α × β × γ × δ)) (f : α → β → γ → δ → Option ε) : Option ε := match o with
  | none => none
  | some (a, b, c, d) => f a b c d
def bn {γ : Type} (x : Sg) (f : Sg → Option γ) : Option γ := f x
theorem nbn {γ : Type} {x : Sg} {f : Sg → Option γ} {v : γ} (h : bn x f = some v) : ∃ y, x = y ∧ f y = some v := ⟨x, rfl, h⟩
theorem lf2 {α β : Type} {a a' : α} {b b' : β} (h : some (a, b) = some (a', b')) : a = a' ∧ b = b' := by cases h; exact ⟨rfl, rfl⟩
theorem lf4 {α β γ δ : Type} {a a' : α} {b b' : β} {c c' : γ} {d d' : δ} (h : some (a, b, c, d) = some (a', b', c', d')) : a = a' ∧ b = b' ∧ c = c' ∧ d = d' := by cases h; exact ⟨rfl, rfl, rfl, rfl⟩
theorem nb2 {α β γ : Type} {o : Option (α × β)} {f : α → β → Option γ} {v : γ} (h : b2 o f = some v) : ∃ a b, o = some (a, b) ∧ f a b = some v := by
  cases o with
  | none => cases h
  | some x => exact ⟨x.1, x.2, rfl, h⟩
theorem nb4 {α β γ δ ε : Type} {o : Option (α × β × γ × δ)} {f : α → β → γ → δ → Option ε} {v : ε} (h : b4 o f = some v) : ∃ a b c d, o = some (a, b, c, d) ∧ f a b c d = some v := by
  cases o with
  | none => cases h
  | some x => exact ⟨x.1, x.2.1, x.2.2.1, x.2.2.2, rfl, h⟩
section B2
variable {p : Program} {l : Launch} {e : Env} {R : Room} {s : State} {m : MethodId} {args : Array Value} {below : List Frame} {meth : Method} {c : Code} {d : Dp} {A : Nat → Prop} {Q : State → Prop} {nL : Nat} {σ : Sg} {k n pc : Nat} {lv : List (Nat × Value)} {st : List Value} {own : String} {cc : ByteArray} {ret : Option FieldType}
theorem r_sub (ps : List Nat) {lv' : List (Nat × Value)} (hq : lv_pick lv ps = lv') (kk : Gk p l e R s m args below meth c d A Q nL σ k n pc lv' st) : Gk p l e R s m args below meth c d A Q nL σ k n pc lv st := fun H locs ls hH hS hP hl => kk H locs ls hH hS hP (lv_sub hl ps hq)
theorem r_nm {σ2 : Sg} (e1 : σ = σ2) (kk : Gk p l e R s m args below meth c d A Q nL σ2 k n pc lv st) : Gk p l e R s m args below meth c d A Q nL σ k n pc lv st := by subst e1; exact kk
theorem r_mmin (E : Ev p s m args meth c own cc nL ret d A) {ix : Nat} {x y : Int32} (hd : decode cc pc = .ok (.invokestatic ix, 3)) (w1 : Cond.methodLink own ix Lib.Math.min.name ∈ wsL_law) (w2 : Cond.static Lib.Math.min.name ∈ wsL_law) (w3 : Cond.initialized "java/lang/Math" ∈ wsL_law) (w4 : Cond.code Lib.Math.min.name Lib.Math.min.code 2 (some .int) ∈ wsL_law) (hR : 1 ≤ R.frames ∧ 21 ≤ R.locals) (hcat : (st.map fun v => v.category).sum ≤ 8) (h1 : k ≤ R.cells) (h2 : n ≤ R.slots) (kk : Gk p l e R s m args below meth c d A Q nL σ k n (pc + 3) lv (.int (if y < x then y else x) :: st)) : Gk p l e R s m args below meth c d A Q nL σ k n pc lv (.int y :: .int x :: st) := fun H locs ls hH hS hP hl => va_mmin E.x E.b (by rw [E.ml]; exact hl.1.symm) E.ow (E.ts _ w1) (E.ts _ w2) (E.ts _ w3) (E.ts _ w4) hR.1 (by have := hR.2; omega) h1 h2 hd (kk H locs ls hH hS hP hl)
theorem r_mmax (E : Ev p s m args meth c own cc nL ret d A) {ix : Nat} {x y : Int32} (hd : decode cc pc = .ok (.invokestatic ix, 3)) (w1 : Cond.methodLink own ix Lib.Math.max.name ∈ wsL_law) (w2 : Cond.static Lib.Math.max.name ∈ wsL_law) (w3 : Cond.initialized "java/lang/Math" ∈ wsL_law) (w4 : Cond.code Lib.Math.max.name Lib.Math.max.code 2 (some .int) ∈ wsL_law) (hR : 1 ≤ R.frames ∧ 21 ≤ R.locals) (hcat : (st.map fun v => v.category).sum ≤ 8) (h1 : k ≤ R.cells) (h2 : n ≤ R.slots) (kk : Gk p l e R s m args below meth c d A Q nL σ k n (pc + 3) lv (.int (if x < y then y else x) :: st)) : Gk p l e R s m args below meth c d A Q nL σ k n pc lv (.int y :: .int x :: st) := fun H locs ls hH hS hP hl => va_mmax E.x E.b (by rw [E.ml]; exact hl.1.symm) E.ow (E.ts _ w1) (E.ts _ w2) (E.ts _ w3) (E.ts _ w4) hR.1 (by have := hR.2; omega) h1 h2 hd (kk H locs ls hH hS hP hl)
theorem r_aastX (E : Ev p s m args meth c own cc nL ret d A) {a : Nat} {o o2 : Option Nat} {i : Int32} (hd : decode cc pc = .ok (.aastore, 1)) (ho : o = some a) (hg : gc σ a = 12) (hi : vp_in i (gl σ a)) (h2 : o2 = none ∨ gc σ (o2.getD 0) = 7) (kk : Gk p l e R s m args below meth c d A Q nL (wp σ a i.toNatClampNeg o2) k n (pc + 1) lv st) : Gk p l e R s m args below meth c d A Q nL σ k n pc lv (va_rf o2 :: .int i :: va_rf o :: st) := by
  cases o2 with
  | none => exact r_aastNT E hd ho hg hi rfl kk
  | some v =>
    have h3 : gc σ v = 7 := by
      rcases h2 with h | h
      · cases h
      · exact h
    exact r_aastT E hd ho hg hi rfl h3 kk
theorem r_castX (E : Ev p s m args meth c own cc nL ret d A) {ci ix N : Nat} {C : String} {T : u_T} {o : Option Nat} (hd : decode cc pc = .ok (.checkcast ix, 3)) (w1 : Cond.classLink own ix C ∈ wsL_law) (hc : vwCl[ci]? = some (C, T, N)) (hci : ci < 9) (h2 : o = none ∨ gc σ (o.getD 0) = ci + 1) (kk : Gk p l e R s m args below meth c d A Q nL σ k n (pc + 3) lv (va_rf o :: st)) : Gk p l e R s m args below meth c d A Q nL σ k n pc lv (va_rf o :: st) := by
  cases o with
  | none => exact r_castN E hd rfl kk
  | some v =>
    have h3 : gc σ v = ci + 1 := by
      rcases h2 with h | h
      · cases h
      · exact h
    exact r_cast E hd w1 hc hci rfl h3 kk
theorem r_alenX (E : Ev p s m args meth c own cc nL ret d A) {a : Nat} {o : Option Nat} (hd : decode cc pc = .ok (.arraylength, 1)) (ho : o = some a) (hg : gc σ a = 13 ∨ gc σ a = 14) (kk : Gk p l e R s m args below meth c d A Q nL σ k n (pc + 1) lv (.int (Int32.ofNat (gl σ a)) :: st)) : Gk p l e R s m args below meth c d A Q nL σ k n pc lv (va_rf o :: st) := by
  rcases hg with h | h
  · exact r_alenO E hd ho h kk
  · exact r_alenE E hd ho h kk
theorem r_ldcM (E : Ev p s m args meth c own cc nL ret d A) {ix : Nat} (hd : decode cc pc = .ok (.ldc ix, 2)) (w1 : Cond.classLink own ix "[Ljava/lang/Object;" ∈ wsL_law) (kk : Gk p l e R s m args below meth c d A Q nL σ k n (pc + 2) lv (va_rf (some (mir d)) :: st)) : Gk p l e R s m args below meth c d A Q nL σ k n pc lv st := fun H locs ls hH hS hP hl => va_ldcM E.x E.b E.ow (E.ts _ w1) E.K.2.2.2.1 hd (kk H locs ls hH hS hP hl)
theorem r_getC (E : Ev p s m args meth c own cc nL ret d A) {a ix : Nat} {o : Option Nat} (hd : decode cc pc = .ok (.invokevirtual ix, 3)) (w1 : Cond.methodLink own ix gcn ∈ wsL_law) (w2 : Cond.selects "[Ljava/lang/Object;" gcn gcn ∈ wsL_law) (w3 : Cond.instanceMethod gcn ∈ wsL_law) (w4 : Cond.native gcn ∈ wsL_law) (ho : o = some a) (hg : gc σ a = 13) (hR : 1 ≤ R.frames ∧ 22 ≤ R.locals) (hcat : (st.map fun v => v.category).sum ≤ 8) (kk : Gk p l e R s m args below meth c d A Q nL σ k n (pc + 3) lv (va_rf (some (mir d)) :: st)) : Gk p l e R s m args below meth c d A Q nL σ k n pc lv (va_rf o :: st) := fun H locs ls hH hS hP hl => by
  subst ho
  have c0 := hH.arr (a := a) (by omega)
  rw [hg] at c0
  have h4 := va_nmO (nm := "[Ljava/lang/Object;") (E.K.1.2 3 _ rfl).2 (by decide)
  exact va_getC E.x E.b (by rw [E.ml]; exact hl.1.symm) E.ow (E.ts _ w1) E.K.2.2.2.2.1.use (E.ts _ w2) (E.ts _ w3) (E.ts _ w4) E.K.2.2.2.1 ⟨_, c0, rfl, h4⟩ hR.1 (by have := hR.2; omega) hd (kk H locs ls hH hS hP hl)
theorem obj_known (E : Ev p s m args meth c own cc nL ret d A) : ∀ comp : ClassId, s.vm.findClass "java/lang/Object" = some comp → ∃ kC : Class, s.vm.classes[comp]? = some kC := fun comp h => by
  obtain ⟨k, hk, -⟩ := Vm.findClass_spec h
  exact ⟨k, hk⟩
abbrev Ac_Nodes (σ : Sg) (a N : Nat) : Prop := ∀ i, i < N → (ap σ a i = none ∨ gc σ ((ap σ a i).getD 0) = 5)
theorem toN_i {z : Int32} (hz : ¬ z < 0) : z.toInt = (z.toNatClampNeg : Int) := by
  have hz0 : (0 : Int) ≤ z.toInt := by
    have := Int32.not_lt.mp hz
    simpa using Int32.le_iff_toInt_le.mp this
  show z.toInt = ((z.toInt.toNat : Nat) : Int)
  omega
theorem r_copy (E : Ev p s m args meth c own cc nL ret d A) {a0 a ix : Nat} {o1 o2 : Option Nat} {n0 : Int32} (hd : decode cc pc = .ok (.invokestatic ix, 3)) (w1 : Cond.methodLink own ix arraycopyName ∈ wsL_law) (w2 : Cond.native arraycopyName ∈ wsL_law) (w3 : Cond.static arraycopyName ∈ wsL_law) (w4 : Cond.initialized "java/lang/System" ∈ wsL_law) (ho1 : o1 = some a0) (hg1 : gc σ a0 = 13) (ho2 : o2 = some a) (hg2 : gc σ a = 13) (h3 : ¬ n0 < 0) (h45 : n0.toNatClampNeg ≤ gl σ a0 ∧ n0.toNatClampNeg ≤ gl σ a) (hel : Ac_Nodes σ a0 n0.toNatClampNeg) (hR : 1 ≤ R.frames ∧ 60 ≤ R.locals) (hcat : (st.map fun v => v.category).sum ≤ 8) (kk : Gk p l e R s m args below meth c d A Q nL (wr σ a (va_cpy (ap σ a0) (ap σ a) 0 0 n0.toNatClampNeg)) k n (pc + 3) lv st) : Gk p l e R s m args below meth c d A Q nL σ k n pc lv (.int n0 :: .int 0 :: va_rf o2 :: .int 0 :: va_rf o1 :: st) := fun H locs ls hH hS hP hl => by
  subst ho1
  subst ho2
  have c0 := hH.arr (a := a0) (by omega)
  have c1 := hH.arr (a := a) (by omega)
  rw [hg1] at c0
  rw [hg2] at c1
  obtain ⟨kA, comp, r1, r2, r3, -⟩ := (E.K.1.2 3 _ rfl).2
  have hcls := (E.K.1.1 4 _ rfl).2
  obtain ⟨kV, hkV, -⟩ := hcls.2
  obtain ⟨kE, hkE, -⟩ := Vm.findClass_spec r3
  obtain ⟨cN, t0, f1, f2, f3⟩ := Cond.castable_spec (va_Nw.use (A := args) rfl E.K.2.2.2.2.2.2.2)
  have e7 : cN = d.1.1 4 := Option.some.inj (f1.symm.trans hcls.1)
  have e8 : t0 = comp := Option.some.inj (f2.symm.trans r3)
  subst e7
  subst e8
  intro T hT X
  have hz : ((0 : Int32).toNatClampNeg) = 0 := by decide
  have hz2 : (0 : Int32).toInt = 0 := by decide
  obtain ⟨vm', X', step⟩ := X.arraycopy E.x E.ow (E.ts _ w1) (E.ts _ w2) (E.ts _ w3) (E.ts _ w4) (src := a0) (dst := a) (cs := vp_cell (cA d 13) (ac 13 σ a0)) (cd := vp_cell (cA d 13) (ac 13 σ a)) (srcPos := 0) (destPos := 0) (n := n0) (by rw [hT]; exact c0) (by rw [hT]; exact c1)
    (fun _ h => by cases h) (fun _ h => by cases h) (fun h => by cases h) (fun h => by cases h) r1 r1 r2 r2 rfl (by decide) (by decide) h3
    (by rw [toN_i h3, hz2]; show ¬ _ > ((arrV (cA d 13) (gl σ a0) (fun j => va_rf (ap σ a0 j))).slots.size : Int); rw [arrV_size]; omega)
    (by rw [toN_i h3, hz2]; show ¬ _ > ((arrV (cA d 13) (gl σ a) (fun j => va_rf (ap σ a j))).slots.size : Int); rw [arrV_size]; omega)
    (fun vm₁ hal i hi => by
      have e : (vp_cell (cA d 13) (ac 13 σ a0)).slots.getD ((0 : Int32).toNatClampNeg + i) .null = va_rf (ap σ a0 i) := by
        rw [hz, Nat.zero_add]
        show (arrV (cA d 13) (gl σ a0) (fun j => va_rf (ap σ a0 j))).slots.getD _ _ = _
        rw [Array.getD_eq_getD_getElem?, arrV_read _ _ (by omega)]
        rfl
      rw [e]
      have hy := hel i hi
      cases hq : ap σ a0 i with
      | none => exact ⟨rfl, trivial⟩
      | some y =>
        rw [hq] at hy
        have hgy : gc σ y = 5 := by
          rcases hy with hy | hy
          · cases hy
          · exact hy
        obtain ⟨r', hr', cellV, g1, g2, g3, -⟩ := (hH.2 y (by omega)).2.1 4 hgy (by omega)
        obtain ⟨kV', hkV', -⟩ := hal.2.2 _ _ hkV
        obtain ⟨kE', hkE', -⟩ := hal.2.2 _ _ hkE
        refine ⟨rfl, cellV, (show T.heap[y]? = some cellV by rw [hT]; exact g1), (fun q h => by rw [h] at g3; cases g3), ⟨kV', by rw [g2]; exact hkV'⟩, ⟨kE', hkE'⟩, ?_⟩
        show vm₁.assignable _ _ = true
        rw [hal.assignable, g2]
        exact f3)
    (g := F0 m pc ls (.int n0 :: .int 0 :: .ref a :: .int 0 :: .ref a0 :: st)) rfl (by rw [E.ml]; exact hl.1) (rest := st) rfl (by rw [E.b]; exact hd) hR.1 (by have hw : nativeFrameWords "java/lang/System" "arraycopy" 5 ≤ 30 := (by decide); show 2 * 0 + _ + _ ≤ _; have := hR.2; omega)
  have e1 : copied (vp_cell (cA d 13) (ac 13 σ a0)) (vp_cell (cA d 13) (ac 13 σ a)) 0 0 n0 = vp_cell (cA d 13) (gl σ a, .inr (.inr (.inr (.inr (va_cpy (ap σ a0) (ap σ a) 0 0 n0.toNatClampNeg))))) := by
    have h6 := va_copied (n1 := gl σ a) (sp := 0) (dp := 0) (fun z => va_rf z) (cA d 13) (cA d 13) (ap σ a0) (ap σ a) (n0 := gl σ a0) (n := n0.toNatClampNeg) (by omega)
    exact h6
  rw [e1] at X' step
  have hlt : a < H.size := (Array.getElem?_eq_some_iff.mp c1).1
  have hHn : HW d (wr σ a (va_cpy (ap σ a0) (ap σ a) 0 0 n0.toNatClampNeg)) (H.setIfInBounds a (vp_cell (cA d 13) (gl σ a, .inr (.inr (.inr (.inr (va_cpy (ap σ a0) (ap σ a) 0 0 n0.toNatClampNeg))))))) := by
    refine hH.up (a := a) rfl rfl (by simp) (fun q hq => by simp [Array.getElem?_setIfInBounds, Ne.symm hq]) (fun _ _ _ => rfl) (fun b hb c => ac_wr hb c) ⟨fun ci2 hc2 hci2 => ?_, fun hc2 => ?_⟩
    · have hc3 : gc σ a = ci2 + 1 := hc2
      omega
    · show _ = some (vp_cell (cA d (gc σ a)) (ac (gc σ a) (wr σ a _) a))
      rw [hg2]
      have e9 : ap (wr σ a (va_cpy (ap σ a0) (ap σ a) 0 0 n0.toNatClampNeg)) a = va_cpy (ap σ a0) (ap σ a) 0 0 n0.toNatClampNeg := by show (if a = a then _ else _) = _; simp
      show _ = some (vp_cell (cA d 13) (gl σ a, .inr (.inr (.inr (.inr (ap (wr σ a _) a))))))
      rw [e9]
      simp [Array.getElem?_setIfInBounds, hlt]
  have hSn : va_S A s.heap (H.setIfInBounds a (vp_cell (cA d 13) (gl σ a, .inr (.inr (.inr (.inr (va_cpy (ap σ a0) (ap σ a) 0 0 n0.toNatClampNeg))))))) (locs ++ ((vp_cell (cA d 13) (ac 13 σ a0)).stretch (0 : Int32).toNatClampNeg n0.toNatClampNeg).zipIdx.map fun q => ⟨a, (0 : Int32).toNatClampNeg + q.2⟩) := by
    refine ⟨by simp; exact hS.1, fun q g1 g2 => ?_, fun q hq => ?_⟩
    · have hne : q ≠ a := fun h => g2 (by rw [h]; exact hP a (by omega) (by omega))
      rw [show (H.setIfInBounds a (vp_cell (cA d 13) (gl σ a, .inr (.inr (.inr (.inr (va_cpy (ap σ a0) (ap σ a) 0 0 n0.toNatClampNeg)))))))[q]? = H[q]? by simp [Array.getElem?_setIfInBounds, Ne.symm hne]]
      exact hS.2.1 q g1 g2
    · rcases List.mem_append.mp hq with h | h
      · exact hS.2.2 q h
      · obtain ⟨z, -, hz⟩ := List.mem_map.mp h
        rw [← hz]
        exact hP a (by omega) (by omega)
  obtain ⟨t, a1, b1⟩ := kk _ _ ls hHn hSn (fun b h1 h2 => hP b h1 h2) hl _ (by rw [← hT]; rfl) X'
  exact ⟨t, step t a1, b1⟩
end B2
end
section
theorem wm_p_0 : Cond.selects "FrameTalk$Program" yX4_append yX4_append ∈ wsL_law := tbp 0 rfl rfl
theorem wm_p_1 : Cond.selects "java/util/ArrayList" yJx4a65c_add_72be8 yJx4a65c_add_72be8 ∈ wsL_law := tbp 1 rfl rfl
theorem wm_p_2 : Cond.selects "java/util/ArrayList" yJx4a65c_grow_d5877 yJx4a65c_grow_d5877 ∈ wsL_law := tbp 2 rfl rfl
theorem wm_p_3 : Cond.selects "java/util/ArrayList" yJx4a65c_grow_92f84 yJx4a65c_grow_92f84 ∈ wsL_law := tbp 3 rfl rfl
theorem wm_p_4 : Cond.selects "FrameTalk$Machine" yX1_clearFault yX1_clearFault ∈ wsL_law := tbp 4 rfl rfl
theorem wm_p_5 : Cond.selects "FrameTalk$Machine" yX1_failAt yX1_failAt ∈ wsL_law := tbp 5 rfl rfl
theorem wm_p_6 : Cond.selects "FrameTalk$Machine" yX1_open yX1_open ∈ wsL_law := tbp 6 rfl rfl
theorem wm_p_7 : Cond.selects "FrameTalk$Machine" yX1_passFault yX1_passFault ∈ wsL_law := tbp 7 rfl rfl
theorem wm_p_8 : Cond.selects "FrameTalk$Machine" yX1_takesFault yX1_takesFault ∈ wsL_law := tbp 8 rfl rfl
theorem wm_p_9 : Cond.selects "FrameTalk$Machine" yX1_workPart yX1_workPart ∈ wsL_law := tbp 9 rfl rfl
theorem wm_p_10 : Cond.selects "FrameTalk$Machine" yX1_nextPart yX1_nextPart ∈ wsL_law := tbp 10 rfl rfl
theorem wm_p_11 : Cond.selects "FrameTalk$Machine" yX1_nextOfIf yX1_nextOfIf ∈ wsL_law := tbp 11 rfl rfl
theorem wm_p_12 : Cond.selects "FrameTalk$Machine" yX1_lacks yX1_lacks ∈ wsL_law := tbp 12 rfl rfl
theorem wm_p_13 : Cond.selects "FrameTalk$Machine" yX1_nextOfTimes yX1_nextOfTimes ∈ wsL_law := tbp 13 rfl rfl
theorem wm_p_14 : Cond.selects "FrameTalk$Machine" yX1_nextInOrder yX1_nextInOrder ∈ wsL_law := tbp 14 rfl rfl
theorem wm_p_15 : Cond.selects "FrameTalk$Machine" yX1_finish yX1_finish ∈ wsL_law := tbp 15 rfl rfl
theorem wm_p_16 : Cond.selects "FrameTalk$Machine" yX1_useSlot yX1_useSlot ∈ wsL_law := tbp 16 rfl rfl
theorem wm_p_17 : Cond.selects "FrameTalk$Machine" yX1_isSlot yX1_isSlot ∈ wsL_law := tbp 17 rfl rfl
theorem wm_p_18 : Cond.selects "FrameTalk$Machine" yX1_field yX1_field ∈ wsL_law := tbp 18 rfl rfl
theorem wm_p_19 : Cond.selects "FrameTalk$Machine" yX1_store yX1_store ∈ wsL_law := tbp 19 rfl rfl
theorem wm_p_20 : Cond.selects "FrameTalk$Machine" yX1_side yX1_side ∈ wsL_law := tbp 20 rfl rfl
theorem wm_p_21 : Cond.selects "FrameTalk$Machine" yX1_send yX1_send ∈ wsL_law := tbp 21 rfl rfl
theorem wm_p_22 : Cond.selects "FrameTalk$Machine" yX1_reckon yX1_reckon ∈ wsL_law := tbp 22 rfl rfl
theorem wm_p_23 : Cond.selects "FrameTalk$Machine" yX1_row yX1_row ∈ wsL_law := tbp 23 rfl rfl
theorem wm_p_24 : Cond.selects "FrameTalk$Machine" yX1_put yX1_put ∈ wsL_law := tbp 24 rfl rfl
theorem wm_p_25 : Cond.selects "FrameTalk$Machine" yX1_lacksPlace yX1_lacksPlace ∈ wsL_law := tbp 25 rfl rfl
theorem wm_p_26 : Cond.selects "FrameTalk$Machine" yX1_at yX1_at ∈ wsL_law := tbp 26 rfl rfl
theorem wm_p_27 : Cond.selects "FrameTalk$Machine" yX1_size yX1_size ∈ wsL_law := tbp 27 rfl rfl
theorem wm_p_28 : Cond.selects "FrameTalk$Machine" yX1_hold yX1_hold ∈ wsL_law := tbp 28 rfl rfl
theorem wm_p_29 : Cond.selects "FrameTalk$Machine" yX1_close yX1_close ∈ wsL_law := tbp 29 rfl rfl
theorem wm_p_30 : Cond.selects "FrameTalk$Thing" yX5_placesOrNone yX5_placesOrNone ∈ wsL_law := tbp 30 rfl rfl
theorem wm_p_31 : Cond.selects "FrameTalk$Thing" yX5_useOrNone yX5_useOrNone ∈ wsL_law := tbp 31 rfl rfl
theorem wm_p_32 : Cond.selects "FrameTalkModel" yX7_join yX7_join ∈ wsL_law := tbp 32 rfl rfl
theorem wm_p_33 : Cond.selects "FrameTalkModel" yX7_isNode yX7_isNode ∈ wsL_law := tbp 33 rfl rfl
theorem wm_p_34 : Cond.selects "FrameTalkModel" yX7_enter yX7_enter ∈ wsL_law := tbp 34 rfl rfl
theorem wm_p_35 : Cond.selects "FrameTalkModel" yX7_fail yX7_fail ∈ wsL_law := tbp 35 rfl rfl
theorem wm_p_36 : Cond.selects "FrameTalkModel" yX7_outward yX7_outward ∈ wsL_law := tbp 36 rfl rfl
theorem wm_p_37 : Cond.selects "FrameTalkModel" yX7_number yX7_number ∈ wsL_law := tbp 37 rfl rfl
theorem wm_p_38 : Cond.selects "FrameTalkModel" yX7_num yX7_num ∈ wsL_law := tbp 38 rfl rfl
theorem wm_p_39 : Cond.selects "FrameTalkModel" yX7_make yX7_make ∈ wsL_law := tbp 39 rfl rfl
theorem wm_p_40 : Cond.selects "FrameTalkModel" yX7_begin yX7_begin ∈ wsL_law := tbp 40 rfl rfl
theorem wm_p_41 : Cond.selects "FrameTalkModel" yX7_forward yX7_forward ∈ wsL_law := tbp 41 rfl rfl
theorem wm_p_42 : Cond.selects "FrameTalkModel" yX7_part0 yX7_part0 ∈ wsL_law := tbp 42 rfl rfl
theorem wm_p_43 : Cond.selects "FrameTalkModel" yX7_choose yX7_choose ∈ wsL_law := tbp 43 rfl rfl
theorem wm_p_44 : Cond.selects "FrameTalkModel" yX7_is yX7_is ∈ wsL_law := tbp 44 rfl rfl
theorem wm_p_45 : Cond.selects "FrameTalkModel" yX7_again yX7_again ∈ wsL_law := tbp 45 rfl rfl
theorem wm_p_46 : Cond.selects "FrameTalkModel" yX7_eager yX7_eager ∈ wsL_law := tbp 46 rfl rfl
theorem wm_p_47 : Cond.selects "FrameTalkModel" yX7_act yX7_act ∈ wsL_law := tbp 47 rfl rfl
theorem wm_p_48 : Cond.selects "FrameTalkModel" yX7_simple yX7_simple ∈ wsL_law := tbp 48 rfl rfl
theorem wm_p_49 : Cond.selects "FrameTalkModel" yX7_noSlot yX7_noSlot ∈ wsL_law := tbp 49 rfl rfl
theorem wm_p_50 : Cond.selects "FrameTalkModel" yX7_send yX7_send ∈ wsL_law := tbp 50 rfl rfl
theorem wm_p_51 : Cond.selects "FrameTalkModel" yX7_reckon yX7_reckon ∈ wsL_law := tbp 51 rfl rfl
theorem wm_p_52 : Cond.selects "FrameTalkModel" yX7_larger yX7_larger ∈ wsL_law := tbp 52 rfl rfl
theorem wm_p_53 : Cond.selects "FrameTalkModel" yX7_newRow yX7_newRow ∈ wsL_law := tbp 53 rfl rfl
theorem wm_p_54 : Cond.selects "FrameTalkModel" yX7_inRow yX7_inRow ∈ wsL_law := tbp 54 rfl rfl
theorem wm_p_55 : Cond.selects "FrameTalkModel" yX7_thingAt yX7_thingAt ∈ wsL_law := tbp 55 rfl rfl
theorem wm_1_2 : Cond.initialized "FrameTalk$Machine" ∈ wsL_law := tb1 2 rfl rfl
theorem wm_1_3 : Cond.initialized "FrameTalk$Program" ∈ wsL_law := tb1 3 rfl rfl
theorem wm_1_4 : Cond.initialized "java/util/AbstractCollection" ∈ wsL_law := tb1 4 rfl rfl
theorem wm_1_5 : Cond.initialized "java/util/AbstractList" ∈ wsL_law := tb1 5 rfl rfl
theorem wm_1_6 : Cond.initialized "java/util/ArrayList" ∈ wsL_law := tb1 6 rfl rfl
theorem wm_1_7 : Cond.initialized "FrameTalk$Maker" ∈ wsL_law := tb1 7 rfl rfl
theorem wm_1_8 : Cond.initialized "FrameTalk$Frame" ∈ wsL_law := tb1 8 rfl rfl
theorem wm_1_9 : Cond.initialized "FrameTalkModel" ∈ wsL_law := tb1 9 rfl rfl
theorem wm_1_10 : Cond.initialized "FrameTalk$Node" ∈ wsL_law := tb1 10 rfl rfl
theorem wm_1_11 : Cond.initialized "jdk/internal/util/ArraysSupport" ∈ wsL_law := tb1 11 rfl rfl
theorem wm_1_12 : Cond.initialized "java/lang/Math" ∈ wsL_law := tb1 12 rfl rfl
theorem wm_1_13 : Cond.initialized "java/util/Arrays" ∈ wsL_law := tb1 13 rfl rfl
theorem wm_1_14 : Cond.initialized "java/lang/System" ∈ wsL_law := tb1 14 rfl rfl
theorem wm_1_15 : Cond.initialized "java/util/Objects" ∈ wsL_law := tb1 15 rfl rfl
theorem wm_1_16 : Cond.initialized "jdk/internal/util/Preconditions" ∈ wsL_law := tb1 16 rfl rfl
theorem wm_1_17 : Cond.initialized "FrameTalk$Thing" ∈ wsL_law := tb1 17 rfl rfl
theorem wm_1_23 : Cond.methodLink "FrameTalk" 1 Lib.objectInit ∈ wsL_law := tb1 23 rfl rfl
theorem wm_1_24 : Cond.instanceMethod Lib.objectInit ∈ wsL_law := tb1 24 rfl rfl
theorem wm_1_25 : Cond.code Lib.objectInit object_method_1_code 1 (none : Option FieldType) ∈ wsL_law := tb1 25 rfl rfl
theorem wm_1_26 : Cond.classLink "FrameTalk" 7 "FrameTalk$Machine" ∈ wsL_law := tb1 26 rfl rfl
theorem wm_1_27 : Cond.instantiable "FrameTalk$Machine" 13 ∈ wsL_law := tb1 27 rfl rfl
theorem wm_1_28 : Cond.methodLink "FrameTalk" 9 yX1_init ∈ wsL_law := tb1 28 rfl rfl
theorem wm_1_29 : Cond.instanceMethod yX1_init ∈ wsL_law := tb1 29 rfl rfl
theorem wm_1_30 : Cond.code yX1_init prog_3_method_1_code 1 (none : Option FieldType) ∈ wsL_law := tb1 30 rfl rfl
theorem wm_1_31 : Cond.methodLink "FrameTalk$Machine" 3 Lib.objectInit ∈ wsL_law := tb1 31 rfl rfl
theorem wm_1_32 : Cond.classLink "FrameTalk$Machine" 9 "FrameTalk$Program" ∈ wsL_law := tb1 32 rfl rfl
theorem wm_1_33 : Cond.instantiable "FrameTalk$Program" 1 ∈ wsL_law := tb1 33 rfl rfl
theorem wm_1_35 : Cond.instanceMethod yX4_init ∈ wsL_law := tb1 35 rfl rfl
theorem wm_1_36 : Cond.code yX4_init prog_6_method_1_code 1 (none : Option FieldType) ∈ wsL_law := tb1 36 rfl rfl
theorem wm_1_37 : Cond.methodLink "FrameTalk$Program" 3 Lib.objectInit ∈ wsL_law := tb1 37 rfl rfl
theorem wm_1_38 : Cond.classLink "FrameTalk$Program" 9 "java/util/ArrayList" ∈ wsL_law := tb1 38 rfl rfl
theorem wm_1_39 : Cond.instantiable "java/util/ArrayList" 3 ∈ wsL_law := tb1 39 rfl rfl
theorem wm_1_40 : Cond.methodLink "FrameTalk$Program" 11 yJx4a65c_init_da8c8 ∈ wsL_law := tb1 40 rfl rfl
theorem wm_1_41 : Cond.instanceMethod yJx4a65c_init_da8c8 ∈ wsL_law := tb1 41 rfl rfl
theorem wm_1_42 : Cond.code yJx4a65c_init_da8c8 prog_17_method_2_code 1 (none : Option FieldType) ∈ wsL_law := tb1 42 rfl rfl
theorem wm_1_43 : Cond.methodLink "java/util/ArrayList" 1 yJxc12de_init_da8c8 ∈ wsL_law := tb1 43 rfl rfl
theorem wm_1_44 : Cond.instanceMethod yJxc12de_init_da8c8 ∈ wsL_law := tb1 44 rfl rfl
theorem wm_1_45 : Cond.code yJxc12de_init_da8c8 prog_16_method_1_code 1 (none : Option FieldType) ∈ wsL_law := tb1 45 rfl rfl
theorem wm_1_46 : Cond.methodLink "java/util/AbstractList" 1 yJxa1e45_init_da8c8 ∈ wsL_law := tb1 46 rfl rfl
theorem wm_1_47 : Cond.instanceMethod yJxa1e45_init_da8c8 ∈ wsL_law := tb1 47 rfl rfl
theorem wm_1_48 : Cond.code yJxa1e45_init_da8c8 prog_15_method_1_code 1 (none : Option FieldType) ∈ wsL_law := tb1 48 rfl rfl
theorem wm_1_49 : Cond.methodLink "java/util/AbstractCollection" 1 Lib.objectInit ∈ wsL_law := tb1 49 rfl rfl
theorem wm_1_50 : Cond.fieldLink "java/util/ArrayList" 39 "java/util/ArrayList" "DEFAULTCAPACITY_EMPTY_ELEMENTDATA" "[Ljava/lang/Object;" ∈ wsL_law := tb1 50 rfl rfl
theorem wm_1_52 : Cond.fieldLink "java/util/ArrayList" 9 "java/util/ArrayList" "elementData" "[Ljava/lang/Object;" ∈ wsL_law := tb1 52 rfl rfl
theorem wm_1_53 : Cond.fieldLink "java/util/ArrayList" 48 "java/util/ArrayList" "size" "I" ∈ wsL_law := tb1 53 rfl rfl
theorem wm_1_54 : Cond.fieldLink "java/util/AbstractList" 7 "java/util/AbstractList" "modCount" "I" ∈ wsL_law := tb1 54 rfl rfl
theorem wm_1_55 : Cond.fieldLink "java/util/ArrayList" 63 "java/util/ArrayList" "modCount" "I" ∈ wsL_law := tb1 55 rfl rfl
theorem wm_1_56 : Cond.sameField "java/util/ArrayList" "java/util/AbstractList" "modCount" "I" ∈ wsL_law := tb1 56 rfl rfl
theorem wm_1_57 : Cond.lays "java/util/ArrayList" "java/util/ArrayList" "elementData" "[Ljava/lang/Object;" ∈ wsL_law := tb1 57 rfl rfl
theorem wm_1_59 : Cond.lays "java/util/ArrayList" "java/util/ArrayList" "size" "I" ∈ wsL_law := tb1 59 rfl rfl
theorem wm_1_61 : Cond.lays "java/util/ArrayList" "java/util/AbstractList" "modCount" "I" ∈ wsL_law := tb1 61 rfl rfl
theorem wm_1_64 : Cond.fieldLink "FrameTalk$Program" 12 "FrameTalk$Program" "nodes" "Ljava/util/ArrayList;" ∈ wsL_law := tb1 64 rfl rfl
theorem wm_1_65 : Cond.laysFinal "FrameTalk$Program" "FrameTalk$Program" "nodes" "Ljava/util/ArrayList;" ∈ wsL_law := tb1 65 rfl rfl
theorem wm_1_68 : Cond.classLink "FrameTalk$Machine" 18 "FrameTalk$Maker" ∈ wsL_law := tb1 68 rfl rfl
theorem wm_1_69 : Cond.instantiable "FrameTalk$Maker" 2 ∈ wsL_law := tb1 69 rfl rfl
theorem wm_1_71 : Cond.instanceMethod yX2_init ∈ wsL_law := tb1 71 rfl rfl
theorem wm_1_72 : Cond.code yX2_init prog_4_method_1_code 1 (none : Option FieldType) ∈ wsL_law := tb1 72 rfl rfl
theorem wm_1_73 : Cond.methodLink "FrameTalk$Maker" 1 Lib.objectInit ∈ wsL_law := tb1 73 rfl rfl
theorem wm_1_74 : Cond.fieldLink "FrameTalk$Maker" 9 "FrameTalk$Maker" "made" "I" ∈ wsL_law := tb1 74 rfl rfl
theorem wm_1_75 : Cond.fieldLink "FrameTalk$Maker" 29 "FrameTalk$Maker" "placesUsed" "I" ∈ wsL_law := tb1 75 rfl rfl
theorem wm_1_76 : Cond.lays "FrameTalk$Maker" "FrameTalk$Maker" "made" "I" ∈ wsL_law := tb1 76 rfl rfl
theorem wm_1_78 : Cond.lays "FrameTalk$Maker" "FrameTalk$Maker" "placesUsed" "I" ∈ wsL_law := tb1 78 rfl rfl
theorem wm_1_81 : Cond.classLink "FrameTalk$Machine" 25 "FrameTalk$Thing" ∈ wsL_law := tb1 81 rfl rfl
theorem wm_1_83 : Cond.classLink "FrameTalk$Machine" 31 "FrameTalk$Frame" ∈ wsL_law := tb1 83 rfl rfl
theorem wm_1_84 : Cond.instantiable "FrameTalk$Frame" 10 ∈ wsL_law := tb1 84 rfl rfl
theorem wm_1_85 : Cond.methodLink "FrameTalk$Machine" 33 yX0_init ∈ wsL_law := tb1 85 rfl rfl
theorem wm_1_86 : Cond.instanceMethod yX0_init ∈ wsL_law := tb1 86 rfl rfl
theorem wm_1_87 : Cond.code yX0_init prog_2_method_1_code 3 (none : Option FieldType) ∈ wsL_law := tb1 87 rfl rfl
theorem wm_1_88 : Cond.methodLink "FrameTalk$Frame" 1 Lib.objectInit ∈ wsL_law := tb1 88 rfl rfl
theorem wm_1_89 : Cond.fieldLink "FrameTalk$Frame" 7 "FrameTalk$Frame" "outer" "LFrameTalk$Frame;" ∈ wsL_law := tb1 89 rfl rfl
theorem wm_1_90 : Cond.fieldLink "FrameTalk$Machine" 129 "FrameTalk$Frame" "outer" "LFrameTalk$Frame;" ∈ wsL_law := tb1 90 rfl rfl
theorem wm_1_91 : Cond.fieldLink "FrameTalk$Frame" 13 "FrameTalk$Frame" "depth" "I" ∈ wsL_law := tb1 91 rfl rfl
theorem wm_1_92 : Cond.fieldLink "FrameTalk$Machine" 92 "FrameTalk$Frame" "depth" "I" ∈ wsL_law := tb1 92 rfl rfl
theorem wm_1_93 : Cond.fieldLink "FrameTalk$Frame" 17 "FrameTalk$Frame" "inner" "LFrameTalk$Frame;" ∈ wsL_law := tb1 93 rfl rfl
theorem wm_1_94 : Cond.fieldLink "FrameTalk$Frame" 23 "FrameTalk$Frame" "node" "LFrameTalk$Node;" ∈ wsL_law := tb1 94 rfl rfl
theorem wm_1_95 : Cond.fieldLink "FrameTalk$Machine" 139 "FrameTalk$Frame" "node" "LFrameTalk$Node;" ∈ wsL_law := tb1 95 rfl rfl
theorem wm_1_96 : Cond.fieldLink "FrameTalk$Frame" 27 "FrameTalk$Frame" "working" "I" ∈ wsL_law := tb1 96 rfl rfl
theorem wm_1_97 : Cond.fieldLink "FrameTalk$Machine" 136 "FrameTalk$Frame" "working" "I" ∈ wsL_law := tb1 97 rfl rfl
theorem wm_1_98 : Cond.fieldLink "FrameTalk$Frame" 30 "FrameTalk$Frame" "a" "LFrameTalk$Thing;" ∈ wsL_law := tb1 98 rfl rfl
theorem wm_1_99 : Cond.fieldLink "FrameTalk$Machine" 166 "FrameTalk$Frame" "a" "LFrameTalk$Thing;" ∈ wsL_law := tb1 99 rfl rfl
theorem wm_1_100 : Cond.fieldLink "FrameTalk$Frame" 34 "FrameTalk$Frame" "b" "LFrameTalk$Thing;" ∈ wsL_law := tb1 100 rfl rfl
theorem wm_1_101 : Cond.fieldLink "FrameTalk$Machine" 197 "FrameTalk$Frame" "b" "LFrameTalk$Thing;" ∈ wsL_law := tb1 101 rfl rfl
theorem wm_1_102 : Cond.fieldLink "FrameTalk$Frame" 37 "FrameTalk$Frame" "c" "LFrameTalk$Thing;" ∈ wsL_law := tb1 102 rfl rfl
theorem wm_1_103 : Cond.fieldLink "FrameTalk$Machine" 236 "FrameTalk$Frame" "c" "LFrameTalk$Thing;" ∈ wsL_law := tb1 103 rfl rfl
theorem wm_1_104 : Cond.fieldLink "FrameTalk$Frame" 40 "FrameTalk$Frame" "latest" "LFrameTalk$Thing;" ∈ wsL_law := tb1 104 rfl rfl
theorem wm_1_105 : Cond.fieldLink "FrameTalk$Machine" 117 "FrameTalk$Frame" "latest" "LFrameTalk$Thing;" ∈ wsL_law := tb1 105 rfl rfl
theorem wm_1_106 : Cond.fieldLink "FrameTalk$Frame" 43 "FrameTalk$Frame" "left" "J" ∈ wsL_law := tb1 106 rfl rfl
theorem wm_1_107 : Cond.fieldLink "FrameTalk$Machine" 177 "FrameTalk$Frame" "left" "J" ∈ wsL_law := tb1 107 rfl rfl
theorem wm_1_108 : Cond.laysFinal "FrameTalk$Frame" "FrameTalk$Frame" "outer" "LFrameTalk$Frame;" ∈ wsL_law := tb1 108 rfl rfl
theorem wm_1_110 : Cond.laysFinal "FrameTalk$Frame" "FrameTalk$Frame" "depth" "I" ∈ wsL_law := tb1 110 rfl rfl
theorem wm_1_112 : Cond.lays "FrameTalk$Frame" "FrameTalk$Frame" "inner" "LFrameTalk$Frame;" ∈ wsL_law := tb1 112 rfl rfl
theorem wm_1_114 : Cond.lays "FrameTalk$Frame" "FrameTalk$Frame" "node" "LFrameTalk$Node;" ∈ wsL_law := tb1 114 rfl rfl
theorem wm_1_116 : Cond.lays "FrameTalk$Frame" "FrameTalk$Frame" "working" "I" ∈ wsL_law := tb1 116 rfl rfl
theorem wm_1_118 : Cond.lays "FrameTalk$Frame" "FrameTalk$Frame" "a" "LFrameTalk$Thing;" ∈ wsL_law := tb1 118 rfl rfl
theorem wm_1_120 : Cond.lays "FrameTalk$Frame" "FrameTalk$Frame" "b" "LFrameTalk$Thing;" ∈ wsL_law := tb1 120 rfl rfl
theorem wm_1_122 : Cond.lays "FrameTalk$Frame" "FrameTalk$Frame" "c" "LFrameTalk$Thing;" ∈ wsL_law := tb1 122 rfl rfl
theorem wm_1_124 : Cond.lays "FrameTalk$Frame" "FrameTalk$Frame" "latest" "LFrameTalk$Thing;" ∈ wsL_law := tb1 124 rfl rfl
theorem wm_1_126 : Cond.lays "FrameTalk$Frame" "FrameTalk$Frame" "left" "J" ∈ wsL_law := tb1 126 rfl rfl
theorem wm_1_129 : Cond.fieldLink "FrameTalk$Machine" 12 "FrameTalk$Machine" "program" "LFrameTalk$Program;" ∈ wsL_law := tb1 129 rfl rfl
theorem wm_1_130 : Cond.fieldLink "FrameTalk" 16 "FrameTalk$Machine" "program" "LFrameTalk$Program;" ∈ wsL_law := tb1 130 rfl rfl
theorem wm_1_131 : Cond.fieldLink "FrameTalk$Machine" 21 "FrameTalk$Machine" "maker" "LFrameTalk$Maker;" ∈ wsL_law := tb1 131 rfl rfl
theorem wm_1_132 : Cond.fieldLink "FrameTalk$Machine" 27 "FrameTalk$Machine" "slots" "[LFrameTalk$Thing;" ∈ wsL_law := tb1 132 rfl rfl
theorem wm_1_133 : Cond.fieldLink "FrameTalk$Machine" 36 "FrameTalk$Machine" "outermost" "LFrameTalk$Frame;" ∈ wsL_law := tb1 133 rfl rfl
theorem wm_1_134 : Cond.fieldLink "FrameTalk$Machine" 40 "FrameTalk$Machine" "top" "LFrameTalk$Frame;" ∈ wsL_law := tb1 134 rfl rfl
theorem wm_1_135 : Cond.fieldLink "FrameTalk$Machine" 55 "FrameTalk$Machine" "held" "LFrameTalk$Thing;" ∈ wsL_law := tb1 135 rfl rfl
theorem wm_1_136 : Cond.fieldLink "FrameTalk$Machine" 51 "FrameTalk$Machine" "gave" "LFrameTalk$Thing;" ∈ wsL_law := tb1 136 rfl rfl
theorem wm_1_137 : Cond.fieldLink "FrameTalk$Machine" 59 "FrameTalk$Machine" "stepsUsedEver" "I" ∈ wsL_law := tb1 137 rfl rfl
theorem wm_1_138 : Cond.fieldLink "FrameTalk$Machine" 68 "FrameTalk$Machine" "stepsAllowed" "I" ∈ wsL_law := tb1 138 rfl rfl
theorem wm_1_139 : Cond.fieldLink "FrameTalk$Machine" 74 "FrameTalk$Machine" "spent" "Z" ∈ wsL_law := tb1 139 rfl rfl
theorem wm_1_140 : Cond.fieldLink "FrameTalk$Machine" 71 "FrameTalk$Machine" "stepsTaken" "I" ∈ wsL_law := tb1 140 rfl rfl
theorem wm_1_141 : Cond.fieldLink "FrameTalk" 88 "FrameTalk$Machine" "stepsTaken" "I" ∈ wsL_law := tb1 141 rfl rfl
theorem wm_1_142 : Cond.fieldLink "FrameTalk$Machine" 95 "FrameTalk$Machine" "faultKind" "I" ∈ wsL_law := tb1 142 rfl rfl
theorem wm_1_143 : Cond.fieldLink "FrameTalk" 82 "FrameTalk$Machine" "faultKind" "I" ∈ wsL_law := tb1 143 rfl rfl
theorem wm_1_144 : Cond.fieldLink "FrameTalk$Machine" 43 "FrameTalk$Machine" "faultAt" "I" ∈ wsL_law := tb1 144 rfl rfl
theorem wm_1_145 : Cond.fieldLink "FrameTalk" 85 "FrameTalk$Machine" "faultAt" "I" ∈ wsL_law := tb1 145 rfl rfl
theorem wm_1_146 : Cond.laysFinal "FrameTalk$Machine" "FrameTalk$Machine" "program" "LFrameTalk$Program;" ∈ wsL_law := tb1 146 rfl rfl
theorem wm_1_148 : Cond.laysFinal "FrameTalk$Machine" "FrameTalk$Machine" "maker" "LFrameTalk$Maker;" ∈ wsL_law := tb1 148 rfl rfl
theorem wm_1_150 : Cond.laysFinal "FrameTalk$Machine" "FrameTalk$Machine" "slots" "[LFrameTalk$Thing;" ∈ wsL_law := tb1 150 rfl rfl
theorem wm_1_152 : Cond.laysFinal "FrameTalk$Machine" "FrameTalk$Machine" "outermost" "LFrameTalk$Frame;" ∈ wsL_law := tb1 152 rfl rfl
theorem wm_1_154 : Cond.lays "FrameTalk$Machine" "FrameTalk$Machine" "top" "LFrameTalk$Frame;" ∈ wsL_law := tb1 154 rfl rfl
theorem wm_1_156 : Cond.lays "FrameTalk$Machine" "FrameTalk$Machine" "held" "LFrameTalk$Thing;" ∈ wsL_law := tb1 156 rfl rfl
theorem wm_1_158 : Cond.lays "FrameTalk$Machine" "FrameTalk$Machine" "gave" "LFrameTalk$Thing;" ∈ wsL_law := tb1 158 rfl rfl
theorem wm_1_160 : Cond.lays "FrameTalk$Machine" "FrameTalk$Machine" "stepsUsedEver" "I" ∈ wsL_law := tb1 160 rfl rfl
theorem wm_1_162 : Cond.lays "FrameTalk$Machine" "FrameTalk$Machine" "stepsAllowed" "I" ∈ wsL_law := tb1 162 rfl rfl
theorem wm_1_164 : Cond.lays "FrameTalk$Machine" "FrameTalk$Machine" "spent" "Z" ∈ wsL_law := tb1 164 rfl rfl
theorem wm_1_166 : Cond.lays "FrameTalk$Machine" "FrameTalk$Machine" "stepsTaken" "I" ∈ wsL_law := tb1 166 rfl rfl
theorem wm_1_168 : Cond.lays "FrameTalk$Machine" "FrameTalk$Machine" "faultKind" "I" ∈ wsL_law := tb1 168 rfl rfl
theorem wm_1_170 : Cond.lays "FrameTalk$Machine" "FrameTalk$Machine" "faultAt" "I" ∈ wsL_law := tb1 170 rfl rfl
theorem wm_1_173 : Cond.fieldLink "FrameTalk" 20 "FrameTalk" "program" "LFrameTalk$Program;" ∈ wsL_law := tb1 173 rfl rfl
theorem wm_1_174 : Cond.fieldLink "FrameTalk" 10 "FrameTalk" "machine" "LFrameTalk$Machine;" ∈ wsL_law := tb1 174 rfl rfl
theorem wm_1_175 : Cond.laysFinal "FrameTalk" "FrameTalk" "program" "LFrameTalk$Program;" ∈ wsL_law := tb1 175 rfl rfl
theorem wm_1_177 : Cond.laysFinal "FrameTalk" "FrameTalk" "machine" "LFrameTalk$Machine;" ∈ wsL_law := tb1 177 rfl rfl
theorem wm_1_184 : Cond.methodLink "FrameTalk" 21 yX4_addLiteral ∈ wsL_law := tb1 184 rfl rfl
theorem wm_1_185 : Cond.instanceMethod yX4_addLiteral ∈ wsL_law := tb1 185 rfl rfl
theorem wm_1_186 : Cond.selects "FrameTalk$Program" yX4_addLiteral yX4_addLiteral ∈ wsL_law := tb1 186 rfl rfl
theorem wm_1_187 : Cond.code yX4_addLiteral prog_6_method_3_code 3 (some FieldType.int) ∈ wsL_law := tb1 187 rfl rfl
theorem wm_1_188 : Cond.methodLink "FrameTalk$Program" 18 yJx4a65c_size_8abf5 ∈ wsL_law := tb1 188 rfl rfl
theorem wm_1_189 : Cond.instanceMethod yJx4a65c_size_8abf5 ∈ wsL_law := tb1 189 rfl rfl
theorem wm_1_190 : Cond.selects "java/util/ArrayList" yJx4a65c_size_8abf5 yJx4a65c_size_8abf5 ∈ wsL_law := tb1 190 rfl rfl
theorem wm_1_191 : Cond.code yJx4a65c_size_8abf5 prog_17_method_8_code 1 (some FieldType.int) ∈ wsL_law := tb1 191 rfl rfl
theorem wm_1_192 : Cond.classLink "FrameTalk$Program" 26 "FrameTalk$Node" ∈ wsL_law := tb1 192 rfl rfl
theorem wm_1_193 : Cond.instantiable "FrameTalk$Node" 6 ∈ wsL_law := tb1 193 rfl rfl
theorem wm_1_194 : Cond.methodLink "FrameTalk$Program" 28 yX3_init ∈ wsL_law := tb1 194 rfl rfl
theorem wm_1_195 : Cond.instanceMethod yX3_init ∈ wsL_law := tb1 195 rfl rfl
theorem wm_1_196 : Cond.code yX3_init prog_5_method_1_code 5 (none : Option FieldType) ∈ wsL_law := tb1 196 rfl rfl
theorem wm_1_197 : Cond.methodLink "FrameTalk$Node" 5 Lib.objectInit ∈ wsL_law := tb1 197 rfl rfl
theorem wm_1_198 : Cond.fieldLink "FrameTalk$Node" 21 "FrameTalk$Node" "number" "I" ∈ wsL_law := tb1 198 rfl rfl
theorem wm_1_199 : Cond.fieldLink "FrameTalk$Program" 58 "FrameTalk$Node" "number" "I" ∈ wsL_law := tb1 199 rfl rfl
theorem wm_1_200 : Cond.fieldLink "FrameTalk$Machine" 120 "FrameTalk$Node" "number" "I" ∈ wsL_law := tb1 200 rfl rfl
theorem wm_1_201 : Cond.fieldLink "FrameTalk$Node" 24 "FrameTalk$Node" "op" "I" ∈ wsL_law := tb1 201 rfl rfl
theorem wm_1_202 : Cond.fieldLink "FrameTalk$Machine" 151 "FrameTalk$Node" "op" "I" ∈ wsL_law := tb1 202 rfl rfl
theorem wm_1_203 : Cond.fieldLink "FrameTalk$Node" 27 "FrameTalk$Node" "literal" "J" ∈ wsL_law := tb1 203 rfl rfl
theorem wm_1_204 : Cond.fieldLink "FrameTalk$Machine" 191 "FrameTalk$Node" "literal" "J" ∈ wsL_law := tb1 204 rfl rfl
theorem wm_1_205 : Cond.fieldLink "FrameTalk$Node" 11 "FrameTalk$Node" "a" "I" ∈ wsL_law := tb1 205 rfl rfl
theorem wm_1_206 : Cond.fieldLink "FrameTalk$Node" 15 "FrameTalk$Node" "b" "I" ∈ wsL_law := tb1 206 rfl rfl
theorem wm_1_207 : Cond.fieldLink "FrameTalk$Node" 18 "FrameTalk$Node" "c" "I" ∈ wsL_law := tb1 207 rfl rfl
theorem wm_1_208 : Cond.laysFinal "FrameTalk$Node" "FrameTalk$Node" "number" "I" ∈ wsL_law := tb1 208 rfl rfl
theorem wm_1_210 : Cond.laysFinal "FrameTalk$Node" "FrameTalk$Node" "op" "I" ∈ wsL_law := tb1 210 rfl rfl
theorem wm_1_212 : Cond.laysFinal "FrameTalk$Node" "FrameTalk$Node" "literal" "J" ∈ wsL_law := tb1 212 rfl rfl
theorem wm_1_214 : Cond.lays "FrameTalk$Node" "FrameTalk$Node" "a" "I" ∈ wsL_law := tb1 214 rfl rfl
theorem wm_1_216 : Cond.lays "FrameTalk$Node" "FrameTalk$Node" "b" "I" ∈ wsL_law := tb1 216 rfl rfl
theorem wm_1_218 : Cond.lays "FrameTalk$Node" "FrameTalk$Node" "c" "I" ∈ wsL_law := tb1 218 rfl rfl
theorem wm_1_221 : Cond.methodLink "FrameTalk$Program" 31 yX4_append ∈ wsL_law := tb1 221 rfl rfl
theorem wm_1_223 : Cond.instanceMethod yX4_append ∈ wsL_law := tb1 223 rfl rfl
theorem wm_1_224 : Cond.code yX4_append prog_6_method_7_code 2 (some FieldType.int) ∈ wsL_law := tb1 224 rfl rfl
theorem wm_1_225 : Cond.methodLink "FrameTalk$Program" 54 yJx4a65c_add_9ea2d ∈ wsL_law := tb1 225 rfl rfl
theorem wm_1_226 : Cond.instanceMethod yJx4a65c_add_9ea2d ∈ wsL_law := tb1 226 rfl rfl
theorem wm_1_227 : Cond.selects "java/util/ArrayList" yJx4a65c_add_9ea2d yJx4a65c_add_9ea2d ∈ wsL_law := tb1 227 rfl rfl
theorem wm_1_228 : Cond.code yJx4a65c_add_9ea2d prog_17_method_25_code 2 (some FieldType.boolean) ∈ wsL_law := tb1 228 rfl rfl
theorem wm_1_229 : Cond.methodLink "java/util/ArrayList" 131 yJx4a65c_add_72be8 ∈ wsL_law := tb1 229 rfl rfl
theorem wm_1_231 : Cond.instanceMethod yJx4a65c_add_72be8 ∈ wsL_law := tb1 231 rfl rfl
theorem wm_1_232 : Cond.code yJx4a65c_add_72be8 prog_17_method_24_code 4 (none : Option FieldType) ∈ wsL_law := tb1 232 rfl rfl
theorem wm_1_233 : Cond.methodLink "java/util/ArrayList" 129 yJx4a65c_grow_d5877 ∈ wsL_law := tb1 233 rfl rfl
theorem wm_1_235 : Cond.instanceMethod yJx4a65c_grow_d5877 ∈ wsL_law := tb1 235 rfl rfl
theorem wm_1_236 : Cond.code yJx4a65c_grow_d5877 prog_17_method_7_code 1 (some (FieldType.array (FieldType.object "java/lang/Object"))) ∈ wsL_law := tb1 236 rfl rfl
theorem wm_1_237 : Cond.methodLink "java/util/ArrayList" 69 yJx4a65c_grow_92f84 ∈ wsL_law := tb1 237 rfl rfl
theorem wm_1_239 : Cond.instanceMethod yJx4a65c_grow_92f84 ∈ wsL_law := tb1 239 rfl rfl
theorem wm_2_0 : Cond.code yJx4a65c_grow_92f84 prog_17_method_6_code 4 (some (FieldType.array (FieldType.object "java/lang/Object"))) ∈ wsL_law := tb2 0 rfl rfl
theorem wm_2_1 : Cond.methodLink "java/util/ArrayList" 73 yJ8_newLength_cabcc ∈ wsL_law := tb2 1 rfl rfl
theorem wm_2_2 : Cond.static yJ8_newLength_cabcc ∈ wsL_law := tb2 2 rfl rfl
theorem wm_2_3 : Cond.code yJ8_newLength_cabcc prog_24_method_27_code 4 (some FieldType.int) ∈ wsL_law := tb2 3 rfl rfl
theorem wm_2_4 : Cond.methodLink "jdk/internal/util/ArraysSupport" 194 yJ9_max_7cf53 ∈ wsL_law := tb2 4 rfl rfl
theorem wm_2_5 : Cond.static yJ9_max_7cf53 ∈ wsL_law := tb2 5 rfl rfl
theorem wm_2_6 : Cond.code yJ9_max_7cf53 prog_13_method_65_code 2 (some FieldType.int) ∈ wsL_law := tb2 6 rfl rfl
theorem wm_2_7 : Cond.constant "jdk/internal/util/ArraysSupport" 200 2147483639 ∈ wsL_law := tb2 7 rfl rfl
theorem wm_2_11 : Cond.methodLink "java/util/ArrayList" 66 yJ7_copyOf_1904c ∈ wsL_law := tb2 11 rfl rfl
theorem wm_2_12 : Cond.static yJ7_copyOf_1904c ∈ wsL_law := tb2 12 rfl rfl
theorem wm_2_13 : Cond.code yJ7_copyOf_1904c prog_18_method_119_code 2 (some (FieldType.array (FieldType.object "java/lang/Object"))) ∈ wsL_law := tb2 13 rfl rfl
theorem wm_2_14 : Cond.methodLink "java/util/Arrays" 86 ⟨"java/lang/Object", "getClass", "()Ljava/lang/Class;"⟩ ∈ wsL_law := tb2 14 rfl rfl
theorem wm_2_15 : Cond.instanceMethod ⟨"java/lang/Object", "getClass", "()Ljava/lang/Class;"⟩ ∈ wsL_law := tb2 15 rfl rfl
theorem wm_2_26 : Cond.native ⟨"java/lang/Object", "getClass", "()Ljava/lang/Class;"⟩ ∈ wsL_law := tb2 26 rfl rfl
theorem wm_2_27 : Cond.methodLink "java/util/Arrays" 300 yJ7_copyOf_6403c ∈ wsL_law := tb2 27 rfl rfl
theorem wm_2_28 : Cond.static yJ7_copyOf_6403c ∈ wsL_law := tb2 28 rfl rfl
theorem wm_2_29 : Cond.code yJ7_copyOf_6403c prog_18_method_120_code 4 (some (FieldType.array (FieldType.object "java/lang/Object"))) ∈ wsL_law := tb2 29 rfl rfl
theorem wm_2_30 : Cond.classLink "java/util/Arrays" 110 "[Ljava/lang/Object;" ∈ wsL_law := tb2 30 rfl rfl
theorem wm_2_32 : Cond.classLink "java/util/Arrays" 2 "java/lang/Object" ∈ wsL_law := tb2 32 rfl rfl
theorem wm_2_33 : Cond.methodLink "java/util/Arrays" 304 yJ9_min_7cf53 ∈ wsL_law := tb2 33 rfl rfl
theorem wm_2_34 : Cond.static yJ9_min_7cf53 ∈ wsL_law := tb2 34 rfl rfl
theorem wm_2_35 : Cond.code yJ9_min_7cf53 prog_13_method_69_code 2 (some FieldType.int) ∈ wsL_law := tb2 35 rfl rfl
theorem wm_2_36 : Cond.methodLink "java/util/Arrays" 150 ⟨"java/lang/System", "arraycopy", "(Ljava/lang/Object;ILjava/lang/Object;II)V"⟩ ∈ wsL_law := tb2 36 rfl rfl
theorem wm_2_37 : Cond.static ⟨"java/lang/System", "arraycopy", "(Ljava/lang/Object;ILjava/lang/Object;II)V"⟩ ∈ wsL_law := tb2 37 rfl rfl
theorem wm_2_38 : Cond.native ⟨"java/lang/System", "arraycopy", "(Ljava/lang/Object;ILjava/lang/Object;II)V"⟩ ∈ wsL_law := tb2 38 rfl rfl
theorem wm_2_39 : Cond.methodLink "java/util/ArrayList" 79 yJ9_max_7cf53 ∈ wsL_law := tb2 39 rfl rfl
theorem wm_2_40 : Cond.classLink "java/util/ArrayList" 7 "java/lang/Object" ∈ wsL_law := tb2 40 rfl rfl
theorem wm_2_45 : Cond.methodLink "FrameTalk" 29 yX4_add ∈ wsL_law := tb2 45 rfl rfl
theorem wm_2_46 : Cond.instanceMethod yX4_add ∈ wsL_law := tb2 46 rfl rfl
theorem wm_2_47 : Cond.selects "FrameTalk$Program" yX4_add yX4_add ∈ wsL_law := tb2 47 rfl rfl
theorem wm_2_48 : Cond.code yX4_add prog_6_method_4_code 6 (some FieldType.int) ∈ wsL_law := tb2 48 rfl rfl
theorem wm_2_49 : Cond.methodLink "FrameTalk$Program" 35 yX4_setPart ∈ wsL_law := tb2 49 rfl rfl
theorem wm_2_50 : Cond.instanceMethod yX4_setPart ∈ wsL_law := tb2 50 rfl rfl
theorem wm_2_51 : Cond.selects "FrameTalk$Program" yX4_setPart yX4_setPart ∈ wsL_law := tb2 51 rfl rfl
theorem wm_2_52 : Cond.code yX4_setPart prog_6_method_5_code 5 (none : Option FieldType) ∈ wsL_law := tb2 52 rfl rfl
theorem wm_2_53 : Cond.methodLink "FrameTalk$Program" 39 yX3_works ∈ wsL_law := tb2 53 rfl rfl
theorem wm_2_54 : Cond.instanceMethod yX3_works ∈ wsL_law := tb2 54 rfl rfl
theorem wm_2_55 : Cond.selects "FrameTalk$Node" yX3_works yX3_works ∈ wsL_law := tb2 55 rfl rfl
theorem wm_2_56 : Cond.code yX3_works prog_5_method_4_code 2 (some FieldType.boolean) ∈ wsL_law := tb2 56 rfl rfl
theorem wm_2_57 : Cond.methodLink "FrameTalk$Program" 43 yX4_at ∈ wsL_law := tb2 57 rfl rfl
theorem wm_2_58 : Cond.instanceMethod yX4_at ∈ wsL_law := tb2 58 rfl rfl
theorem wm_2_59 : Cond.selects "FrameTalk$Program" yX4_at yX4_at ∈ wsL_law := tb2 59 rfl rfl
theorem wm_2_60 : Cond.code yX4_at prog_6_method_2_code 2 (some (FieldType.object "FrameTalk$Node")) ∈ wsL_law := tb2 60 rfl rfl
theorem wm_2_61 : Cond.methodLink "FrameTalk$Program" 22 yJx4a65c_get_915e3 ∈ wsL_law := tb2 61 rfl rfl
theorem wm_2_62 : Cond.instanceMethod yJx4a65c_get_915e3 ∈ wsL_law := tb2 62 rfl rfl
theorem wm_2_63 : Cond.selects "java/util/ArrayList" yJx4a65c_get_915e3 yJx4a65c_get_915e3 ∈ wsL_law := tb2 63 rfl rfl
theorem wm_2_64 : Cond.code yJx4a65c_get_915e3 prog_17_method_20_code 2 (some (FieldType.object "java/lang/Object")) ∈ wsL_law := tb2 64 rfl rfl
theorem wm_2_65 : Cond.methodLink "java/util/ArrayList" 118 yJ15_checkIndex_7cf53 ∈ wsL_law := tb2 65 rfl rfl
theorem wm_2_66 : Cond.static yJ15_checkIndex_7cf53 ∈ wsL_law := tb2 66 rfl rfl
theorem wm_2_67 : Cond.code yJ15_checkIndex_7cf53 prog_21_method_17_code 2 (some FieldType.int) ∈ wsL_law := tb2 67 rfl rfl
theorem wm_2_68 : Cond.methodLink "java/util/Objects" 105 yJ3_checkIndex_8e157 ∈ wsL_law := tb2 68 rfl rfl
theorem wm_2_69 : Cond.static yJ3_checkIndex_8e157 ∈ wsL_law := tb2 69 rfl rfl
theorem wm_2_70 : Cond.code yJ3_checkIndex_8e157 prog_25_method_11_code 3 (some FieldType.int) ∈ wsL_law := tb2 70 rfl rfl
theorem wm_2_71 : Cond.methodLink "java/util/ArrayList" 123 yJx4a65c_elementData_915e3 ∈ wsL_law := tb2 71 rfl rfl
theorem wm_2_72 : Cond.instanceMethod yJx4a65c_elementData_915e3 ∈ wsL_law := tb2 72 rfl rfl
theorem wm_2_73 : Cond.selects "java/util/ArrayList" yJx4a65c_elementData_915e3 yJx4a65c_elementData_915e3 ∈ wsL_law := tb2 73 rfl rfl
theorem wm_2_74 : Cond.code yJx4a65c_elementData_915e3 prog_17_method_18_code 2 (some (FieldType.object "java/lang/Object")) ∈ wsL_law := tb2 74 rfl rfl
theorem wm_2_75 : Cond.methodLink "FrameTalk$Program" 47 yX3_set ∈ wsL_law := tb2 75 rfl rfl
theorem wm_2_76 : Cond.instanceMethod yX3_set ∈ wsL_law := tb2 76 rfl rfl
theorem wm_2_77 : Cond.selects "FrameTalk$Node" yX3_set yX3_set ∈ wsL_law := tb2 77 rfl rfl
theorem wm_2_78 : Cond.code yX3_set prog_5_method_3_code 3 (none : Option FieldType) ∈ wsL_law := tb2 78 rfl rfl
theorem wm_2_83 : Cond.methodLink "FrameTalk" 33 yX4_at ∈ wsL_law := tb2 83 rfl rfl
theorem wm_2_84 : Cond.methodLink "FrameTalk" 37 yX4_setPart ∈ wsL_law := tb2 84 rfl rfl
theorem wm_2_89 : Cond.methodLink "FrameTalk" 41 yX1_begin ∈ wsL_law := tb2 89 rfl rfl
theorem wm_2_90 : Cond.instanceMethod yX1_begin ∈ wsL_law := tb2 90 rfl rfl
theorem wm_2_91 : Cond.selects "FrameTalk$Machine" yX1_begin yX1_begin ∈ wsL_law := tb2 91 rfl rfl
theorem wm_2_92 : Cond.code yX1_begin prog_3_method_5_code 3 (none : Option FieldType) ∈ wsL_law := tb2 92 rfl rfl
theorem wm_2_93 : Cond.constant "FrameTalk$Machine" 58 50000 ∈ wsL_law := tb2 93 rfl rfl
theorem wm_2_94 : Cond.methodLink "FrameTalk$Machine" 62 yJ9_min_7cf53 ∈ wsL_law := tb2 94 rfl rfl
theorem wm_2_95 : Cond.methodLink "FrameTalk$Machine" 78 yX1_clearFault ∈ wsL_law := tb2 95 rfl rfl
theorem wm_2_97 : Cond.instanceMethod yX1_clearFault ∈ wsL_law := tb2 97 rfl rfl
theorem wm_2_98 : Cond.code yX1_clearFault prog_3_method_18_code 1 (none : Option FieldType) ∈ wsL_law := tb2 98 rfl rfl
theorem wm_2_99 : Cond.methodLink "FrameTalk$Machine" 81 yX0_begin ∈ wsL_law := tb2 99 rfl rfl
theorem wm_2_100 : Cond.instanceMethod yX0_begin ∈ wsL_law := tb2 100 rfl rfl
theorem wm_2_101 : Cond.selects "FrameTalk$Frame" yX0_begin yX0_begin ∈ wsL_law := tb2 101 rfl rfl
theorem wm_2_102 : Cond.code yX0_begin prog_2_method_3_code 2 (none : Option FieldType) ∈ wsL_law := tb2 102 rfl rfl
theorem wm_2_103 : Cond.methodLink "FrameTalk$Machine" 85 yX1_failAt ∈ wsL_law := tb2 103 rfl rfl
theorem wm_2_105 : Cond.instanceMethod yX1_failAt ∈ wsL_law := tb2 105 rfl rfl
theorem wm_2_106 : Cond.code yX1_failAt prog_3_method_19_code 3 (some (FieldType.object "FrameTalk$Thing")) ∈ wsL_law := tb2 106 rfl rfl
theorem wm_2_107 : Cond.methodLink "FrameTalk$Machine" 89 yX1_open ∈ wsL_law := tb2 107 rfl rfl
theorem wm_2_109 : Cond.instanceMethod yX1_open ∈ wsL_law := tb2 109 rfl rfl
theorem wm_2_110 : Cond.code yX1_open prog_3_method_9_code 2 (none : Option FieldType) ∈ wsL_law := tb2 110 rfl rfl
theorem wm_2_111 : Cond.methodLink "FrameTalk$Machine" 125 yX0_within ∈ wsL_law := tb2 111 rfl rfl
theorem wm_2_112 : Cond.instanceMethod yX0_within ∈ wsL_law := tb2 112 rfl rfl
theorem wm_2_113 : Cond.selects "FrameTalk$Frame" yX0_within yX0_within ∈ wsL_law := tb2 113 rfl rfl
theorem wm_2_114 : Cond.code yX0_within prog_2_method_2_code 1 (some (FieldType.object "FrameTalk$Frame")) ∈ wsL_law := tb2 114 rfl rfl
theorem wm_2_115 : Cond.classLink "FrameTalk$Frame" 8 "FrameTalk$Frame" ∈ wsL_law := tb2 115 rfl rfl
theorem wm_2_116 : Cond.methodLink "FrameTalk$Frame" 20 yX0_init ∈ wsL_law := tb2 116 rfl rfl
theorem wm_2_117 : Cond.constant "FrameTalk" 45 1000000 ∈ wsL_law := tb2 117 rfl rfl
theorem wm_2_118 : Cond.methodLink "FrameTalk" 46 yX1_isAtWork ∈ wsL_law := tb2 118 rfl rfl
theorem wm_2_119 : Cond.instanceMethod yX1_isAtWork ∈ wsL_law := tb2 119 rfl rfl
theorem wm_2_120 : Cond.selects "FrameTalk$Machine" yX1_isAtWork yX1_isAtWork ∈ wsL_law := tb2 120 rfl rfl
theorem wm_2_121 : Cond.code yX1_isAtWork prog_3_method_6_code 1 (some FieldType.boolean) ∈ wsL_law := tb2 121 rfl rfl
theorem wm_2_122 : Cond.methodLink "FrameTalk" 50 yX1_takeTurn ∈ wsL_law := tb2 122 rfl rfl
theorem wm_2_123 : Cond.instanceMethod yX1_takeTurn ∈ wsL_law := tb2 123 rfl rfl
theorem wm_2_124 : Cond.selects "FrameTalk$Machine" yX1_takeTurn yX1_takeTurn ∈ wsL_law := tb2 124 rfl rfl
theorem wm_2_125 : Cond.code yX1_takeTurn prog_3_method_7_code 3 (none : Option FieldType) ∈ wsL_law := tb2 125 rfl rfl
theorem wm_2_126 : Cond.methodLink "FrameTalk$Machine" 98 yX1_passFault ∈ wsL_law := tb2 126 rfl rfl
theorem wm_2_128 : Cond.instanceMethod yX1_passFault ∈ wsL_law := tb2 128 rfl rfl
theorem wm_2_129 : Cond.code yX1_passFault prog_3_method_16_code 2 (none : Option FieldType) ∈ wsL_law := tb2 129 rfl rfl
theorem wm_2_130 : Cond.methodLink "FrameTalk$Machine" 180 yX1_takesFault ∈ wsL_law := tb2 130 rfl rfl
theorem wm_2_132 : Cond.instanceMethod yX1_takesFault ∈ wsL_law := tb2 132 rfl rfl
theorem wm_2_133 : Cond.code yX1_takesFault prog_3_method_17_code 3 (some FieldType.boolean) ∈ wsL_law := tb2 133 rfl rfl
theorem wm_2_134 : Cond.methodLink "FrameTalk$Machine" 143 yX3_get ∈ wsL_law := tb2 134 rfl rfl
theorem wm_2_135 : Cond.instanceMethod yX3_get ∈ wsL_law := tb2 135 rfl rfl
theorem wm_2_136 : Cond.selects "FrameTalk$Node" yX3_get yX3_get ∈ wsL_law := tb2 136 rfl rfl
theorem wm_2_137 : Cond.code yX3_get prog_5_method_2_code 2 (some FieldType.int) ∈ wsL_law := tb2 137 rfl rfl
theorem wm_2_138 : Cond.methodLink "FrameTalk$Machine" 184 yX2_withValue ∈ wsL_law := tb2 138 rfl rfl
theorem wm_2_139 : Cond.instanceMethod yX2_withValue ∈ wsL_law := tb2 139 rfl rfl
theorem wm_2_140 : Cond.selects "FrameTalk$Maker" yX2_withValue yX2_withValue ∈ wsL_law := tb2 140 rfl rfl
theorem wm_2_141 : Cond.code yX2_withValue prog_4_method_2_code 5 (some (FieldType.object "FrameTalk$Thing")) ∈ wsL_law := tb2 141 rfl rfl
theorem wm_2_142 : Cond.classLink "FrameTalk$Maker" 7 "FrameTalk$Thing" ∈ wsL_law := tb2 142 rfl rfl
theorem wm_2_143 : Cond.instantiable "FrameTalk$Thing" 7 ∈ wsL_law := tb2 143 rfl rfl
theorem wm_2_144 : Cond.methodLink "FrameTalk$Maker" 15 yX5_init ∈ wsL_law := tb2 144 rfl rfl
theorem wm_2_145 : Cond.instanceMethod yX5_init ∈ wsL_law := tb2 145 rfl rfl
theorem wm_2_146 : Cond.code yX5_init prog_7_method_1_code 3 (none : Option FieldType) ∈ wsL_law := tb2 146 rfl rfl
theorem wm_2_147 : Cond.methodLink "FrameTalk$Thing" 3 Lib.objectInit ∈ wsL_law := tb2 147 rfl rfl
theorem wm_2_148 : Cond.fieldLink "FrameTalk$Thing" 9 "FrameTalk$Thing" "number" "I" ∈ wsL_law := tb2 148 rfl rfl
theorem wm_2_149 : Cond.fieldLink "FrameTalk$Thing" 15 "FrameTalk$Thing" "kind" "I" ∈ wsL_law := tb2 149 rfl rfl
theorem wm_2_150 : Cond.fieldLink "FrameTalk" 74 "FrameTalk$Thing" "kind" "I" ∈ wsL_law := tb2 150 rfl rfl
theorem wm_2_151 : Cond.fieldLink "FrameTalk$Maker" 18 "FrameTalk$Thing" "value" "J" ∈ wsL_law := tb2 151 rfl rfl
theorem wm_2_152 : Cond.fieldLink "FrameTalk" 66 "FrameTalk$Thing" "value" "J" ∈ wsL_law := tb2 152 rfl rfl
theorem wm_2_153 : Cond.fieldLink "FrameTalk$Machine" 173 "FrameTalk$Thing" "value" "J" ∈ wsL_law := tb2 153 rfl rfl
theorem wm_2_154 : Cond.fieldLink "FrameTalk$Maker" 22 "FrameTalk$Thing" "first" "LFrameTalk$Thing;" ∈ wsL_law := tb2 154 rfl rfl
theorem wm_2_155 : Cond.fieldLink "FrameTalk$Thing" 33 "FrameTalk$Thing" "first" "LFrameTalk$Thing;" ∈ wsL_law := tb2 155 rfl rfl
theorem wm_2_156 : Cond.fieldLink "FrameTalk$Machine" 230 "FrameTalk$Thing" "first" "LFrameTalk$Thing;" ∈ wsL_law := tb2 156 rfl rfl
theorem wm_2_157 : Cond.fieldLink "FrameTalk$Maker" 26 "FrameTalk$Thing" "second" "LFrameTalk$Thing;" ∈ wsL_law := tb2 157 rfl rfl
theorem wm_2_158 : Cond.fieldLink "FrameTalk$Thing" 44 "FrameTalk$Thing" "second" "LFrameTalk$Thing;" ∈ wsL_law := tb2 158 rfl rfl
theorem wm_2_159 : Cond.fieldLink "FrameTalk$Machine" 233 "FrameTalk$Thing" "second" "LFrameTalk$Thing;" ∈ wsL_law := tb2 159 rfl rfl
theorem wm_2_160 : Cond.fieldLink "FrameTalk$Thing" 22 "FrameTalk$Thing" "use" "I" ∈ wsL_law := tb2 160 rfl rfl
theorem wm_2_161 : Cond.fieldLink "FrameTalk$Maker" 40 "FrameTalk$Thing" "use" "I" ∈ wsL_law := tb2 161 rfl rfl
theorem wm_2_162 : Cond.fieldLink "FrameTalk$Thing" 18 "FrameTalk$Thing" "places" "[LFrameTalk$Thing;" ∈ wsL_law := tb2 162 rfl rfl
theorem wm_2_163 : Cond.fieldLink "FrameTalk$Maker" 43 "FrameTalk$Thing" "places" "[LFrameTalk$Thing;" ∈ wsL_law := tb2 163 rfl rfl
theorem wm_2_164 : Cond.fieldLink "FrameTalk$Machine" 255 "FrameTalk$Thing" "places" "[LFrameTalk$Thing;" ∈ wsL_law := tb2 164 rfl rfl
theorem wm_2_165 : Cond.laysFinal "FrameTalk$Thing" "FrameTalk$Thing" "number" "I" ∈ wsL_law := tb2 165 rfl rfl
theorem wm_2_167 : Cond.laysFinal "FrameTalk$Thing" "FrameTalk$Thing" "kind" "I" ∈ wsL_law := tb2 167 rfl rfl
theorem wm_2_169 : Cond.lays "FrameTalk$Thing" "FrameTalk$Thing" "value" "J" ∈ wsL_law := tb2 169 rfl rfl
theorem wm_2_171 : Cond.lays "FrameTalk$Thing" "FrameTalk$Thing" "first" "LFrameTalk$Thing;" ∈ wsL_law := tb2 171 rfl rfl
theorem wm_2_173 : Cond.lays "FrameTalk$Thing" "FrameTalk$Thing" "second" "LFrameTalk$Thing;" ∈ wsL_law := tb2 173 rfl rfl
theorem wm_2_175 : Cond.lays "FrameTalk$Thing" "FrameTalk$Thing" "use" "I" ∈ wsL_law := tb2 175 rfl rfl
theorem wm_2_177 : Cond.lays "FrameTalk$Thing" "FrameTalk$Thing" "places" "[LFrameTalk$Thing;" ∈ wsL_law := tb2 177 rfl rfl
theorem wm_2_180 : Cond.methodLink "FrameTalk$Machine" 114 yX1_workPart ∈ wsL_law := tb2 180 rfl rfl
theorem wm_2_182 : Cond.instanceMethod yX1_workPart ∈ wsL_law := tb2 182 rfl rfl
theorem wm_2_183 : Cond.code yX1_workPart prog_3_method_11_code 4 (none : Option FieldType) ∈ wsL_law := tb2 183 rfl rfl
theorem wm_2_184 : Cond.methodLink "FrameTalk$Machine" 147 yX4_at ∈ wsL_law := tb2 184 rfl rfl
theorem wm_2_185 : Cond.methodLink "FrameTalk$Machine" 102 yX1_nextPart ∈ wsL_law := tb2 185 rfl rfl
theorem wm_2_187 : Cond.instanceMethod yX1_nextPart ∈ wsL_law := tb2 187 rfl rfl
theorem wm_2_188 : Cond.code yX1_nextPart prog_3_method_12_code 2 (some FieldType.int) ∈ wsL_law := tb2 188 rfl rfl
theorem wm_2_189 : Cond.methodLink "FrameTalk$Machine" 154 yX1_nextOfIf ∈ wsL_law := tb2 189 rfl rfl
theorem wm_2_191 : Cond.instanceMethod yX1_nextOfIf ∈ wsL_law := tb2 191 rfl rfl
theorem wm_2_192 : Cond.code yX1_nextOfIf prog_3_method_14_code 2 (some FieldType.int) ∈ wsL_law := tb2 192 rfl rfl
theorem wm_2_193 : Cond.methodLink "FrameTalk$Machine" 169 yX1_lacks ∈ wsL_law := tb2 193 rfl rfl
theorem wm_2_195 : Cond.instanceMethod yX1_lacks ∈ wsL_law := tb2 195 rfl rfl
theorem wm_2_196 : Cond.code yX1_lacks prog_3_method_20_code 4 (some FieldType.boolean) ∈ wsL_law := tb2 196 rfl rfl
theorem wm_2_197 : Cond.methodLink "FrameTalk$Machine" 188 yX5_isA ∈ wsL_law := tb2 197 rfl rfl
theorem wm_2_198 : Cond.instanceMethod yX5_isA ∈ wsL_law := tb2 198 rfl rfl
theorem wm_2_199 : Cond.selects "FrameTalk$Thing" yX5_isA yX5_isA ∈ wsL_law := tb2 199 rfl rfl
theorem wm_2_200 : Cond.code yX5_isA prog_7_method_2_code 2 (some FieldType.boolean) ∈ wsL_law := tb2 200 rfl rfl
theorem wm_2_201 : Cond.methodLink "FrameTalk$Machine" 157 yX1_nextOfTimes ∈ wsL_law := tb2 201 rfl rfl
theorem wm_2_203 : Cond.instanceMethod yX1_nextOfTimes ∈ wsL_law := tb2 203 rfl rfl
theorem wm_2_204 : Cond.code yX1_nextOfTimes prog_3_method_15_code 2 (some FieldType.int) ∈ wsL_law := tb2 204 rfl rfl
theorem wm_2_205 : Cond.methodLink "FrameTalk$Machine" 160 yX1_nextInOrder ∈ wsL_law := tb2 205 rfl rfl
theorem wm_2_207 : Cond.instanceMethod yX1_nextInOrder ∈ wsL_law := tb2 207 rfl rfl
theorem wm_2_208 : Cond.code yX1_nextInOrder prog_3_method_13_code 3 (some FieldType.int) ∈ wsL_law := tb2 208 rfl rfl
theorem wm_2_209 : Cond.methodLink "FrameTalk$Machine" 163 yX3_works ∈ wsL_law := tb2 209 rfl rfl
theorem wm_2_210 : Cond.methodLink "FrameTalk$Machine" 106 yX1_finish ∈ wsL_law := tb2 210 rfl rfl
theorem wm_2_212 : Cond.instanceMethod yX1_finish ∈ wsL_law := tb2 212 rfl rfl
theorem wm_2_213 : Cond.code yX1_finish prog_3_method_21_code 2 (some (FieldType.object "FrameTalk$Thing")) ∈ wsL_law := tb2 213 rfl rfl
theorem wm_2_214 : Cond.methodLink "FrameTalk$Machine" 194 yX1_useSlot ∈ wsL_law := tb2 214 rfl rfl
theorem wm_2_216 : Cond.instanceMethod yX1_useSlot ∈ wsL_law := tb2 216 rfl rfl
theorem wm_2_217 : Cond.code yX1_useSlot prog_3_method_23_code 3 (some (FieldType.object "FrameTalk$Thing")) ∈ wsL_law := tb2 217 rfl rfl
theorem wm_2_218 : Cond.methodLink "FrameTalk$Machine" 47 yX1_isSlot ∈ wsL_law := tb2 218 rfl rfl
theorem wm_2_220 : Cond.instanceMethod yX1_isSlot ∈ wsL_law := tb2 220 rfl rfl
theorem wm_2_221 : Cond.code yX1_isSlot prog_3_method_22_code 2 (some FieldType.boolean) ∈ wsL_law := tb2 221 rfl rfl
theorem wm_2_222 : Cond.methodLink "FrameTalk$Machine" 200 yX2_withFields ∈ wsL_law := tb2 222 rfl rfl
theorem wm_2_223 : Cond.instanceMethod yX2_withFields ∈ wsL_law := tb2 223 rfl rfl
theorem wm_2_224 : Cond.selects "FrameTalk$Maker" yX2_withFields yX2_withFields ∈ wsL_law := tb2 224 rfl rfl
theorem wm_2_225 : Cond.code yX2_withFields prog_4_method_3_code 5 (some (FieldType.object "FrameTalk$Thing")) ∈ wsL_law := tb2 225 rfl rfl
theorem wm_2_226 : Cond.methodLink "FrameTalk$Machine" 204 yX1_field ∈ wsL_law := tb2 226 rfl rfl
theorem wm_2_228 : Cond.instanceMethod yX1_field ∈ wsL_law := tb2 228 rfl rfl
theorem wm_2_229 : Cond.code yX1_field prog_3_method_24_code 2 (some (FieldType.object "FrameTalk$Thing")) ∈ wsL_law := tb2 229 rfl rfl
theorem wm_2_230 : Cond.methodLink "FrameTalk$Machine" 207 yX1_store ∈ wsL_law := tb2 230 rfl rfl
theorem wm_2_232 : Cond.instanceMethod yX1_store ∈ wsL_law := tb2 232 rfl rfl
theorem wm_2_233 : Cond.code yX1_store prog_3_method_25_code 2 (some (FieldType.object "FrameTalk$Thing")) ∈ wsL_law := tb2 233 rfl rfl
theorem wm_2_234 : Cond.methodLink "FrameTalk$Machine" 210 yX1_side ∈ wsL_law := tb2 234 rfl rfl
theorem wm_2_236 : Cond.instanceMethod yX1_side ∈ wsL_law := tb2 236 rfl rfl
theorem wm_2_237 : Cond.code yX1_side prog_3_method_26_code 2 (some (FieldType.object "FrameTalk$Thing")) ∈ wsL_law := tb2 237 rfl rfl
theorem wm_2_238 : Cond.methodLink "FrameTalk$Machine" 213 yX1_send ∈ wsL_law := tb2 238 rfl rfl
theorem wm_3_0 : Cond.instanceMethod yX1_send ∈ wsL_law := tb3 0 rfl rfl
theorem wm_3_1 : Cond.code yX1_send prog_3_method_27_code 4 (some (FieldType.object "FrameTalk$Thing")) ∈ wsL_law := tb3 1 rfl rfl
theorem wm_3_2 : Cond.methodLink "FrameTalk$Machine" 239 yX1_reckon ∈ wsL_law := tb3 2 rfl rfl
theorem wm_3_4 : Cond.instanceMethod yX1_reckon ∈ wsL_law := tb3 4 rfl rfl
theorem wm_3_5 : Cond.code yX1_reckon prog_3_method_28_code 8 (some (FieldType.object "FrameTalk$Thing")) ∈ wsL_law := tb3 5 rfl rfl
theorem wm_3_6 : Cond.methodLink "FrameTalk$Machine" 216 yX1_row ∈ wsL_law := tb3 6 rfl rfl
theorem wm_3_8 : Cond.instanceMethod yX1_row ∈ wsL_law := tb3 8 rfl rfl
theorem wm_3_9 : Cond.code yX1_row prog_3_method_29_code 4 (some (FieldType.object "FrameTalk$Thing")) ∈ wsL_law := tb3 9 rfl rfl
theorem wm_3_10 : Cond.methodLink "FrameTalk$Machine" 243 yX2_rowWithoutPlaces ∈ wsL_law := tb3 10 rfl rfl
theorem wm_3_11 : Cond.instanceMethod yX2_rowWithoutPlaces ∈ wsL_law := tb3 11 rfl rfl
theorem wm_3_12 : Cond.selects "FrameTalk$Maker" yX2_rowWithoutPlaces yX2_rowWithoutPlaces ∈ wsL_law := tb3 12 rfl rfl
theorem wm_3_13 : Cond.code yX2_rowWithoutPlaces prog_4_method_6_code 1 (some (FieldType.object "FrameTalk$Thing")) ∈ wsL_law := tb3 13 rfl rfl
theorem wm_3_14 : Cond.methodLink "FrameTalk$Machine" 247 yX2_hasRoomFor ∈ wsL_law := tb3 14 rfl rfl
theorem wm_3_15 : Cond.instanceMethod yX2_hasRoomFor ∈ wsL_law := tb3 15 rfl rfl
theorem wm_3_16 : Cond.selects "FrameTalk$Maker" yX2_hasRoomFor yX2_hasRoomFor ∈ wsL_law := tb3 16 rfl rfl
theorem wm_3_17 : Cond.code yX2_hasRoomFor prog_4_method_4_code 2 (some FieldType.boolean) ∈ wsL_law := tb3 17 rfl rfl
theorem wm_3_18 : Cond.methodLink "FrameTalk$Machine" 250 yX2_row ∈ wsL_law := tb3 18 rfl rfl
theorem wm_3_19 : Cond.instanceMethod yX2_row ∈ wsL_law := tb3 19 rfl rfl
theorem wm_3_20 : Cond.selects "FrameTalk$Maker" yX2_row yX2_row ∈ wsL_law := tb3 20 rfl rfl
theorem wm_3_21 : Cond.code yX2_row prog_4_method_5_code 4 (some (FieldType.object "FrameTalk$Thing")) ∈ wsL_law := tb3 21 rfl rfl
theorem wm_3_22 : Cond.methodLink "FrameTalk$Maker" 32 yX2_rowWithoutPlaces ∈ wsL_law := tb3 22 rfl rfl
theorem wm_3_23 : Cond.methodLink "FrameTalk$Maker" 36 yX2_hasRoomFor ∈ wsL_law := tb3 23 rfl rfl
theorem wm_3_24 : Cond.methodLink "FrameTalk$Machine" 219 yX1_put ∈ wsL_law := tb3 24 rfl rfl
theorem wm_3_26 : Cond.instanceMethod yX1_put ∈ wsL_law := tb3 26 rfl rfl
theorem wm_3_27 : Cond.code yX1_put prog_3_method_31_code 2 (some (FieldType.object "FrameTalk$Thing")) ∈ wsL_law := tb3 27 rfl rfl
theorem wm_3_28 : Cond.methodLink "FrameTalk$Machine" 258 yX1_lacksPlace ∈ wsL_law := tb3 28 rfl rfl
theorem wm_3_30 : Cond.instanceMethod yX1_lacksPlace ∈ wsL_law := tb3 30 rfl rfl
theorem wm_3_31 : Cond.code yX1_lacksPlace prog_3_method_30_code 2 (some FieldType.boolean) ∈ wsL_law := tb3 31 rfl rfl
theorem wm_3_32 : Cond.methodLink "FrameTalk$Machine" 252 yX5_hasPlace ∈ wsL_law := tb3 32 rfl rfl
theorem wm_3_33 : Cond.instanceMethod yX5_hasPlace ∈ wsL_law := tb3 33 rfl rfl
theorem wm_3_34 : Cond.selects "FrameTalk$Thing" yX5_hasPlace yX5_hasPlace ∈ wsL_law := tb3 34 rfl rfl
theorem wm_3_35 : Cond.code yX5_hasPlace prog_7_method_4_code 2 (some FieldType.boolean) ∈ wsL_law := tb3 35 rfl rfl
theorem wm_3_36 : Cond.methodLink "FrameTalk$Machine" 261 yX5_isRowFor ∈ wsL_law := tb3 36 rfl rfl
theorem wm_3_37 : Cond.instanceMethod yX5_isRowFor ∈ wsL_law := tb3 37 rfl rfl
theorem wm_3_38 : Cond.selects "FrameTalk$Thing" yX5_isRowFor yX5_isRowFor ∈ wsL_law := tb3 38 rfl rfl
theorem wm_3_39 : Cond.code yX5_isRowFor prog_7_method_5_code 2 (some FieldType.boolean) ∈ wsL_law := tb3 39 rfl rfl
theorem wm_3_40 : Cond.methodLink "FrameTalk$Thing" 25 yX5_isA ∈ wsL_law := tb3 40 rfl rfl
theorem wm_3_41 : Cond.methodLink "FrameTalk$Machine" 222 yX1_at ∈ wsL_law := tb3 41 rfl rfl
theorem wm_3_43 : Cond.instanceMethod yX1_at ∈ wsL_law := tb3 43 rfl rfl
theorem wm_3_44 : Cond.code yX1_at prog_3_method_32_code 2 (some (FieldType.object "FrameTalk$Thing")) ∈ wsL_law := tb3 44 rfl rfl
theorem wm_3_45 : Cond.methodLink "FrameTalk$Machine" 224 yX1_size ∈ wsL_law := tb3 45 rfl rfl
theorem wm_3_47 : Cond.instanceMethod yX1_size ∈ wsL_law := tb3 47 rfl rfl
theorem wm_3_48 : Cond.code yX1_size prog_3_method_33_code 2 (some (FieldType.object "FrameTalk$Thing")) ∈ wsL_law := tb3 48 rfl rfl
theorem wm_3_49 : Cond.methodLink "FrameTalk$Machine" 227 yX1_hold ∈ wsL_law := tb3 49 rfl rfl
theorem wm_3_51 : Cond.instanceMethod yX1_hold ∈ wsL_law := tb3 51 rfl rfl
theorem wm_3_52 : Cond.code yX1_hold prog_3_method_34_code 2 (some (FieldType.object "FrameTalk$Thing")) ∈ wsL_law := tb3 52 rfl rfl
theorem wm_3_53 : Cond.methodLink "FrameTalk$Machine" 110 yX1_close ∈ wsL_law := tb3 53 rfl rfl
theorem wm_3_55 : Cond.instanceMethod yX1_close ∈ wsL_law := tb3 55 rfl rfl
theorem wm_3_56 : Cond.code yX1_close prog_3_method_10_code 3 (none : Option FieldType) ∈ wsL_law := tb3 56 rfl rfl
theorem wm_3_57 : Cond.methodLink "FrameTalk$Machine" 132 yX0_receive ∈ wsL_law := tb3 57 rfl rfl
theorem wm_3_58 : Cond.instanceMethod yX0_receive ∈ wsL_law := tb3 58 rfl rfl
theorem wm_3_59 : Cond.selects "FrameTalk$Frame" yX0_receive yX0_receive ∈ wsL_law := tb3 59 rfl rfl
theorem wm_3_60 : Cond.code yX0_receive prog_2_method_4_code 2 (none : Option FieldType) ∈ wsL_law := tb3 60 rfl rfl
theorem wm_3_61 : Cond.methodLink "FrameTalk" 53 yX1_end ∈ wsL_law := tb3 61 rfl rfl
theorem wm_3_62 : Cond.instanceMethod yX1_end ∈ wsL_law := tb3 62 rfl rfl
theorem wm_3_63 : Cond.selects "FrameTalk$Machine" yX1_end yX1_end ∈ wsL_law := tb3 63 rfl rfl
theorem wm_3_64 : Cond.code yX1_end prog_3_method_8_code 1 (some FieldType.int) ∈ wsL_law := tb3 64 rfl rfl
theorem wm_3_69 : Cond.methodLink "FrameTalk" 57 yX1_seenAt ∈ wsL_law := tb3 69 rfl rfl
theorem wm_3_70 : Cond.instanceMethod yX1_seenAt ∈ wsL_law := tb3 70 rfl rfl
theorem wm_3_71 : Cond.selects "FrameTalk$Machine" yX1_seenAt yX1_seenAt ∈ wsL_law := tb3 71 rfl rfl
theorem wm_3_72 : Cond.code yX1_seenAt prog_3_method_3_code 2 (some (FieldType.object "FrameTalk$Thing")) ∈ wsL_law := tb3 72 rfl rfl
theorem wm_3_73 : Cond.methodLink "FrameTalk" 61 yX5_hasValue ∈ wsL_law := tb3 73 rfl rfl
theorem wm_3_74 : Cond.instanceMethod yX5_hasValue ∈ wsL_law := tb3 74 rfl rfl
theorem wm_3_75 : Cond.selects "FrameTalk$Thing" yX5_hasValue yX5_hasValue ∈ wsL_law := tb3 75 rfl rfl
theorem wm_3_76 : Cond.code yX5_hasValue prog_7_method_3_code 1 (some FieldType.boolean) ∈ wsL_law := tb3 76 rfl rfl
theorem wm_3_81 : Cond.methodLink "FrameTalk" 70 yX1_canSee ∈ wsL_law := tb3 81 rfl rfl
theorem wm_3_82 : Cond.instanceMethod yX1_canSee ∈ wsL_law := tb3 82 rfl rfl
theorem wm_3_83 : Cond.selects "FrameTalk$Machine" yX1_canSee yX1_canSee ∈ wsL_law := tb3 83 rfl rfl
theorem wm_3_84 : Cond.code yX1_canSee prog_3_method_2_code 2 (some FieldType.boolean) ∈ wsL_law := tb3 84 rfl rfl
theorem wm_3_85 : Cond.methodLink "FrameTalk" 78 yX5_tell ∈ wsL_law := tb3 85 rfl rfl
theorem wm_3_86 : Cond.instanceMethod yX5_tell ∈ wsL_law := tb3 86 rfl rfl
theorem wm_3_87 : Cond.selects "FrameTalk$Thing" yX5_tell yX5_tell ∈ wsL_law := tb3 87 rfl rfl
theorem wm_3_88 : Cond.code yX5_tell prog_7_method_6_code 2 (some FieldType.int) ∈ wsL_law := tb3 88 rfl rfl
theorem wm_3_89 : Cond.methodLink "FrameTalk$Thing" 29 yX5_placesOrNone ∈ wsL_law := tb3 89 rfl rfl
theorem wm_3_91 : Cond.instanceMethod yX5_placesOrNone ∈ wsL_law := tb3 91 rfl rfl
theorem wm_3_92 : Cond.code yX5_placesOrNone prog_7_method_7_code 1 (some FieldType.int) ∈ wsL_law := tb3 92 rfl rfl
theorem wm_3_93 : Cond.methodLink "FrameTalk$Thing" 37 yX5_numberOf ∈ wsL_law := tb3 93 rfl rfl
theorem wm_3_94 : Cond.static yX5_numberOf ∈ wsL_law := tb3 94 rfl rfl
theorem wm_3_95 : Cond.code yX5_numberOf prog_7_method_9_code 1 (some FieldType.int) ∈ wsL_law := tb3 95 rfl rfl
theorem wm_3_96 : Cond.methodLink "FrameTalk$Thing" 41 yX5_useOrNone ∈ wsL_law := tb3 96 rfl rfl
theorem wm_3_98 : Cond.instanceMethod yX5_useOrNone ∈ wsL_law := tb3 98 rfl rfl
theorem wm_3_99 : Cond.code yX5_useOrNone prog_7_method_8_code 1 (some FieldType.int) ∈ wsL_law := tb3 99 rfl rfl
theorem wm_3_116 : Cond.methodLink "FrameTalk" 91 yX4_clear ∈ wsL_law := tb3 116 rfl rfl
theorem wm_3_117 : Cond.instanceMethod yX4_clear ∈ wsL_law := tb3 117 rfl rfl
theorem wm_3_118 : Cond.selects "FrameTalk$Program" yX4_clear yX4_clear ∈ wsL_law := tb3 118 rfl rfl
theorem wm_3_119 : Cond.code yX4_clear prog_6_method_6_code 1 (none : Option FieldType) ∈ wsL_law := tb3 119 rfl rfl
theorem wm_3_120 : Cond.methodLink "FrameTalk$Program" 51 yJx4a65c_clear_da8c8 ∈ wsL_law := tb3 120 rfl rfl
theorem wm_3_121 : Cond.instanceMethod yJx4a65c_clear_da8c8 ∈ wsL_law := tb3 121 rfl rfl
theorem wm_3_122 : Cond.selects "java/util/ArrayList" yJx4a65c_clear_da8c8 yJx4a65c_clear_da8c8 ∈ wsL_law := tb3 122 rfl rfl
theorem wm_3_123 : Cond.code yJx4a65c_clear_da8c8 prog_17_method_40_code 4 (none : Option FieldType) ∈ wsL_law := tb3 123 rfl rfl
theorem wm_3_124 : Cond.methodLink "FrameTalk" 94 yX1_forget ∈ wsL_law := tb3 124 rfl rfl
theorem wm_3_125 : Cond.instanceMethod yX1_forget ∈ wsL_law := tb3 125 rfl rfl
theorem wm_3_126 : Cond.selects "FrameTalk$Machine" yX1_forget yX1_forget ∈ wsL_law := tb3 126 rfl rfl
theorem wm_3_127 : Cond.code yX1_forget prog_3_method_4_code 2 (none : Option FieldType) ∈ wsL_law := tb3 127 rfl rfl
theorem wm_3_133 : Cond.methodLink "FrameTalkModel" 1 Lib.objectInit ∈ wsL_law := tb3 133 rfl rfl
theorem wm_3_134 : Cond.constant "FrameTalkModel" 23 50000 ∈ wsL_law := tb3 134 rfl rfl
theorem wm_3_135 : Cond.fieldLink "FrameTalkModel" 7 "FrameTalkModel" "named" "[I" ∈ wsL_law := tb3 135 rfl rfl
theorem wm_3_136 : Cond.fieldLink "FrameTalkModel" 13 "FrameTalkModel" "op" "[I" ∈ wsL_law := tb3 136 rfl rfl
theorem wm_3_137 : Cond.fieldLink "FrameTalkModel" 16 "FrameTalkModel" "parts" "[I" ∈ wsL_law := tb3 137 rfl rfl
theorem wm_3_138 : Cond.fieldLink "FrameTalkModel" 19 "FrameTalkModel" "literal" "[J" ∈ wsL_law := tb3 138 rfl rfl
theorem wm_3_139 : Cond.fieldLink "FrameTalkModel" 64 "FrameTalkModel" "nodes" "I" ∈ wsL_law := tb3 139 rfl rfl
theorem wm_3_140 : Cond.fieldLink "FrameTalkModel" 24 "FrameTalkModel" "kind" "[I" ∈ wsL_law := tb3 140 rfl rfl
theorem wm_3_141 : Cond.fieldLink "FrameTalkModel" 27 "FrameTalkModel" "one" "[I" ∈ wsL_law := tb3 141 rfl rfl
theorem wm_3_142 : Cond.fieldLink "FrameTalkModel" 30 "FrameTalkModel" "two" "[I" ∈ wsL_law := tb3 142 rfl rfl
theorem wm_3_143 : Cond.fieldLink "FrameTalkModel" 33 "FrameTalkModel" "value" "[J" ∈ wsL_law := tb3 143 rfl rfl
theorem wm_3_144 : Cond.fieldLink "FrameTalkModel" 75 "FrameTalkModel" "things" "I" ∈ wsL_law := tb3 144 rfl rfl
theorem wm_3_145 : Cond.fieldLink "FrameTalkModel" 36 "FrameTalkModel" "places" "[I" ∈ wsL_law := tb3 145 rfl rfl
theorem wm_3_146 : Cond.fieldLink "FrameTalkModel" 176 "FrameTalkModel" "placed" "I" ∈ wsL_law := tb3 146 rfl rfl
theorem wm_3_147 : Cond.fieldLink "FrameTalkModel" 39 "FrameTalkModel" "slots" "[I" ∈ wsL_law := tb3 147 rfl rfl
theorem wm_3_148 : Cond.fieldLink "FrameTalkModel" 42 "FrameTalkModel" "held" "I" ∈ wsL_law := tb3 148 rfl rfl
theorem wm_3_149 : Cond.fieldLink "FrameTalkModel" 46 "FrameTalkModel" "workNode" "[I" ∈ wsL_law := tb3 149 rfl rfl
theorem wm_3_150 : Cond.fieldLink "FrameTalkModel" 49 "FrameTalkModel" "phase" "[I" ∈ wsL_law := tb3 150 rfl rfl
theorem wm_3_151 : Cond.fieldLink "FrameTalkModel" 52 "FrameTalkModel" "gave" "[I" ∈ wsL_law := tb3 151 rfl rfl
theorem wm_3_152 : Cond.fieldLink "FrameTalkModel" 55 "FrameTalkModel" "times" "[J" ∈ wsL_law := tb3 152 rfl rfl
theorem wm_3_153 : Cond.fieldLink "FrameTalkModel" 98 "FrameTalkModel" "depth" "I" ∈ wsL_law := tb3 153 rfl rfl
theorem wm_3_154 : Cond.fieldLink "FrameTalkModel" 114 "FrameTalkModel" "got" "I" ∈ wsL_law := tb3 154 rfl rfl
theorem wm_3_155 : Cond.fieldLink "FrameTalkModel" 82 "FrameTalkModel" "out" "I" ∈ wsL_law := tb3 155 rfl rfl
theorem wm_3_156 : Cond.fieldLink "FrameTalkModel" 85 "FrameTalkModel" "outNode" "I" ∈ wsL_law := tb3 156 rfl rfl
theorem wm_3_157 : Cond.fieldLink "FrameTalkModel" 92 "FrameTalkModel" "left" "I" ∈ wsL_law := tb3 157 rfl rfl
theorem wm_3_158 : Cond.fieldLink "FrameTalkModel" 95 "FrameTalkModel" "taken" "I" ∈ wsL_law := tb3 158 rfl rfl
theorem wm_3_159 : Cond.fieldLink "FrameTalkModel" 111 "FrameTalkModel" "spent" "I" ∈ wsL_law := tb3 159 rfl rfl
theorem wm_3_160 : Cond.fieldLink "FrameTalkModel" 58 "FrameTalkModel" "given" "I" ∈ wsL_law := tb3 160 rfl rfl
theorem wm_3_161 : Cond.fieldLink "FrameTalkModel" 108 "FrameTalkModel" "fault" "I" ∈ wsL_law := tb3 161 rfl rfl
theorem wm_3_162 : Cond.fieldLink "FrameTalkModel" 61 "FrameTalkModel" "faultNode" "I" ∈ wsL_law := tb3 162 rfl rfl
theorem wm_3_163 : Cond.laysFinal "FrameTalkModel" "FrameTalkModel" "named" "[I" ∈ wsL_law := tb3 163 rfl rfl
theorem wm_3_165 : Cond.laysFinal "FrameTalkModel" "FrameTalkModel" "op" "[I" ∈ wsL_law := tb3 165 rfl rfl
theorem wm_3_167 : Cond.laysFinal "FrameTalkModel" "FrameTalkModel" "parts" "[I" ∈ wsL_law := tb3 167 rfl rfl
theorem wm_3_169 : Cond.laysFinal "FrameTalkModel" "FrameTalkModel" "literal" "[J" ∈ wsL_law := tb3 169 rfl rfl
theorem wm_3_171 : Cond.lays "FrameTalkModel" "FrameTalkModel" "nodes" "I" ∈ wsL_law := tb3 171 rfl rfl
theorem wm_3_173 : Cond.laysFinal "FrameTalkModel" "FrameTalkModel" "kind" "[I" ∈ wsL_law := tb3 173 rfl rfl
theorem wm_3_175 : Cond.laysFinal "FrameTalkModel" "FrameTalkModel" "one" "[I" ∈ wsL_law := tb3 175 rfl rfl
theorem wm_3_177 : Cond.laysFinal "FrameTalkModel" "FrameTalkModel" "two" "[I" ∈ wsL_law := tb3 177 rfl rfl
theorem wm_3_179 : Cond.laysFinal "FrameTalkModel" "FrameTalkModel" "value" "[J" ∈ wsL_law := tb3 179 rfl rfl
theorem wm_3_181 : Cond.lays "FrameTalkModel" "FrameTalkModel" "things" "I" ∈ wsL_law := tb3 181 rfl rfl
theorem wm_3_183 : Cond.laysFinal "FrameTalkModel" "FrameTalkModel" "places" "[I" ∈ wsL_law := tb3 183 rfl rfl
theorem wm_3_185 : Cond.lays "FrameTalkModel" "FrameTalkModel" "placed" "I" ∈ wsL_law := tb3 185 rfl rfl
theorem wm_3_187 : Cond.laysFinal "FrameTalkModel" "FrameTalkModel" "slots" "[I" ∈ wsL_law := tb3 187 rfl rfl
theorem wm_3_189 : Cond.lays "FrameTalkModel" "FrameTalkModel" "held" "I" ∈ wsL_law := tb3 189 rfl rfl
theorem wm_3_191 : Cond.laysFinal "FrameTalkModel" "FrameTalkModel" "workNode" "[I" ∈ wsL_law := tb3 191 rfl rfl
theorem wm_3_193 : Cond.laysFinal "FrameTalkModel" "FrameTalkModel" "phase" "[I" ∈ wsL_law := tb3 193 rfl rfl
theorem wm_3_195 : Cond.laysFinal "FrameTalkModel" "FrameTalkModel" "gave" "[I" ∈ wsL_law := tb3 195 rfl rfl
theorem wm_3_197 : Cond.laysFinal "FrameTalkModel" "FrameTalkModel" "times" "[J" ∈ wsL_law := tb3 197 rfl rfl
theorem wm_3_199 : Cond.lays "FrameTalkModel" "FrameTalkModel" "depth" "I" ∈ wsL_law := tb3 199 rfl rfl
theorem wm_3_201 : Cond.lays "FrameTalkModel" "FrameTalkModel" "got" "I" ∈ wsL_law := tb3 201 rfl rfl
theorem wm_3_203 : Cond.lays "FrameTalkModel" "FrameTalkModel" "out" "I" ∈ wsL_law := tb3 203 rfl rfl
theorem wm_3_205 : Cond.lays "FrameTalkModel" "FrameTalkModel" "outNode" "I" ∈ wsL_law := tb3 205 rfl rfl
theorem wm_3_207 : Cond.lays "FrameTalkModel" "FrameTalkModel" "left" "I" ∈ wsL_law := tb3 207 rfl rfl
theorem wm_3_209 : Cond.lays "FrameTalkModel" "FrameTalkModel" "taken" "I" ∈ wsL_law := tb3 209 rfl rfl
theorem wm_3_211 : Cond.lays "FrameTalkModel" "FrameTalkModel" "spent" "I" ∈ wsL_law := tb3 211 rfl rfl
theorem wm_3_213 : Cond.lays "FrameTalkModel" "FrameTalkModel" "given" "I" ∈ wsL_law := tb3 213 rfl rfl
theorem wm_3_215 : Cond.lays "FrameTalkModel" "FrameTalkModel" "fault" "I" ∈ wsL_law := tb3 215 rfl rfl
theorem wm_3_217 : Cond.lays "FrameTalkModel" "FrameTalkModel" "faultNode" "I" ∈ wsL_law := tb3 217 rfl rfl
theorem wm_3_220 : Cond.arrayClass FieldType.int ∈ wsL_law := tb3 220 rfl rfl
theorem wm_3_221 : Cond.arrayClass FieldType.long ∈ wsL_law := tb3 221 rfl rfl
theorem wm_3_230 : Cond.methodLink "FrameTalkModel" 71 yX7_join ∈ wsL_law := tb3 230 rfl rfl
theorem wm_3_232 : Cond.instanceMethod yX7_join ∈ wsL_law := tb3 232 rfl rfl
theorem wm_3_233 : Cond.code yX7_join prog_9_method_4_code 4 (none : Option FieldType) ∈ wsL_law := tb3 233 rfl rfl
theorem wm_3_234 : Cond.methodLink "FrameTalkModel" 67 yX7_isNode ∈ wsL_law := tb3 234 rfl rfl
theorem wm_3_236 : Cond.instanceMethod yX7_isNode ∈ wsL_law := tb3 236 rfl rfl
theorem wm_3_237 : Cond.code yX7_isNode prog_9_method_3_code 3 (some FieldType.boolean) ∈ wsL_law := tb3 237 rfl rfl
theorem wm_4_6 : Cond.methodLink "FrameTalkModel" 104 yX7_enter ∈ wsL_law := tb4 6 rfl rfl
theorem wm_4_8 : Cond.instanceMethod yX7_enter ∈ wsL_law := tb4 8 rfl rfl
theorem wm_4_9 : Cond.code yX7_enter prog_9_method_12_code 3 (none : Option FieldType) ∈ wsL_law := tb4 9 rfl rfl
theorem wm_4_10 : Cond.methodLink "FrameTalkModel" 88 yX7_fail ∈ wsL_law := tb4 10 rfl rfl
theorem wm_4_12 : Cond.instanceMethod yX7_fail ∈ wsL_law := tb4 12 rfl rfl
theorem wm_4_13 : Cond.code yX7_fail prog_9_method_10_code 3 (some FieldType.int) ∈ wsL_law := tb4 13 rfl rfl
theorem wm_4_14 : Cond.methodLink "FrameTalkModel" 117 yX7_outward ∈ wsL_law := tb4 14 rfl rfl
theorem wm_4_16 : Cond.instanceMethod yX7_outward ∈ wsL_law := tb4 16 rfl rfl
theorem wm_4_17 : Cond.code yX7_outward prog_9_method_15_code 2 (none : Option FieldType) ∈ wsL_law := tb4 17 rfl rfl
theorem wm_4_18 : Cond.methodLink "FrameTalkModel" 101 yX7_number ∈ wsL_law := tb4 18 rfl rfl
theorem wm_4_20 : Cond.instanceMethod yX7_number ∈ wsL_law := tb4 20 rfl rfl
theorem wm_4_21 : Cond.code yX7_number prog_9_method_7_code 3 (some FieldType.int) ∈ wsL_law := tb4 21 rfl rfl
theorem wm_4_22 : Cond.methodLink "FrameTalkModel" 123 yX7_num ∈ wsL_law := tb4 22 rfl rfl
theorem wm_4_24 : Cond.instanceMethod yX7_num ∈ wsL_law := tb4 24 rfl rfl
theorem wm_4_25 : Cond.code yX7_num prog_9_method_9_code 3 (some FieldType.int) ∈ wsL_law := tb4 25 rfl rfl
theorem wm_4_26 : Cond.methodLink "FrameTalkModel" 78 yX7_make ∈ wsL_law := tb4 26 rfl rfl
theorem wm_4_28 : Cond.instanceMethod yX7_make ∈ wsL_law := tb4 28 rfl rfl
theorem wm_4_29 : Cond.code yX7_make prog_9_method_8_code 7 (some FieldType.int) ∈ wsL_law := tb4 29 rfl rfl
theorem wm_4_30 : Cond.methodLink "FrameTalkModel" 127 yX7_begin ∈ wsL_law := tb4 30 rfl rfl
theorem wm_4_32 : Cond.instanceMethod yX7_begin ∈ wsL_law := tb4 32 rfl rfl
theorem wm_4_33 : Cond.code yX7_begin prog_9_method_13_code 3 (none : Option FieldType) ∈ wsL_law := tb4 33 rfl rfl
theorem wm_4_34 : Cond.methodLink "FrameTalkModel" 120 yX7_forward ∈ wsL_law := tb4 34 rfl rfl
theorem wm_4_36 : Cond.instanceMethod yX7_forward ∈ wsL_law := tb4 36 rfl rfl
theorem wm_4_37 : Cond.code yX7_forward prog_9_method_16_code 2 (none : Option FieldType) ∈ wsL_law := tb4 37 rfl rfl
theorem wm_4_38 : Cond.methodLink "FrameTalkModel" 131 yX7_part0 ∈ wsL_law := tb4 38 rfl rfl
theorem wm_4_40 : Cond.instanceMethod yX7_part0 ∈ wsL_law := tb4 40 rfl rfl
theorem wm_4_41 : Cond.code yX7_part0 prog_9_method_17_code 2 (none : Option FieldType) ∈ wsL_law := tb4 41 rfl rfl
theorem wm_4_42 : Cond.methodLink "FrameTalkModel" 134 yX7_choose ∈ wsL_law := tb4 42 rfl rfl
theorem wm_4_44 : Cond.instanceMethod yX7_choose ∈ wsL_law := tb4 44 rfl rfl
theorem wm_4_45 : Cond.code yX7_choose prog_9_method_18_code 2 (none : Option FieldType) ∈ wsL_law := tb4 45 rfl rfl
theorem wm_4_46 : Cond.methodLink "FrameTalkModel" 143 yX7_is ∈ wsL_law := tb4 46 rfl rfl
theorem wm_4_48 : Cond.instanceMethod yX7_is ∈ wsL_law := tb4 48 rfl rfl
theorem wm_4_49 : Cond.code yX7_is prog_9_method_11_code 4 (some FieldType.boolean) ∈ wsL_law := tb4 49 rfl rfl
theorem wm_4_50 : Cond.methodLink "FrameTalkModel" 137 yX7_again ∈ wsL_law := tb4 50 rfl rfl
theorem wm_4_52 : Cond.instanceMethod yX7_again ∈ wsL_law := tb4 52 rfl rfl
theorem wm_4_53 : Cond.code yX7_again prog_9_method_19_code 2 (none : Option FieldType) ∈ wsL_law := tb4 53 rfl rfl
theorem wm_4_54 : Cond.methodLink "FrameTalkModel" 140 yX7_eager ∈ wsL_law := tb4 54 rfl rfl
theorem wm_4_56 : Cond.instanceMethod yX7_eager ∈ wsL_law := tb4 56 rfl rfl
theorem wm_4_57 : Cond.code yX7_eager prog_9_method_20_code 5 (none : Option FieldType) ∈ wsL_law := tb4 57 rfl rfl
theorem wm_4_58 : Cond.methodLink "FrameTalkModel" 147 yX7_act ∈ wsL_law := tb4 58 rfl rfl
theorem wm_4_60 : Cond.instanceMethod yX7_act ∈ wsL_law := tb4 60 rfl rfl
theorem wm_4_61 : Cond.code yX7_act prog_9_method_21_code 5 (some FieldType.int) ∈ wsL_law := tb4 61 rfl rfl
theorem wm_4_62 : Cond.methodLink "FrameTalkModel" 151 yX7_simple ∈ wsL_law := tb4 62 rfl rfl
theorem wm_4_64 : Cond.instanceMethod yX7_simple ∈ wsL_law := tb4 64 rfl rfl
theorem wm_4_65 : Cond.code yX7_simple prog_9_method_23_code 5 (some FieldType.int) ∈ wsL_law := tb4 65 rfl rfl
theorem wm_4_66 : Cond.methodLink "FrameTalkModel" 161 yX7_noSlot ∈ wsL_law := tb4 66 rfl rfl
theorem wm_4_68 : Cond.instanceMethod yX7_noSlot ∈ wsL_law := tb4 68 rfl rfl
theorem wm_4_69 : Cond.code yX7_noSlot prog_9_method_22_code 3 (some FieldType.boolean) ∈ wsL_law := tb4 69 rfl rfl
theorem wm_4_70 : Cond.methodLink "FrameTalkModel" 154 yX7_send ∈ wsL_law := tb4 70 rfl rfl
theorem wm_4_72 : Cond.instanceMethod yX7_send ∈ wsL_law := tb4 72 rfl rfl
theorem wm_4_73 : Cond.code yX7_send prog_9_method_24_code 6 (some FieldType.int) ∈ wsL_law := tb4 73 rfl rfl
theorem wm_4_74 : Cond.methodLink "FrameTalkModel" 164 yX7_reckon ∈ wsL_law := tb4 74 rfl rfl
theorem wm_4_76 : Cond.instanceMethod yX7_reckon ∈ wsL_law := tb4 76 rfl rfl
theorem wm_4_77 : Cond.code yX7_reckon prog_9_method_25_code 7 (some FieldType.int) ∈ wsL_law := tb4 77 rfl rfl
theorem wm_4_78 : Cond.constantLong "FrameTalkModel" 168 (-1) ∈ wsL_law := tb4 78 rfl rfl
theorem wm_4_79 : Cond.methodLink "FrameTalkModel" 158 yX7_larger ∈ wsL_law := tb4 79 rfl rfl
theorem wm_4_81 : Cond.instanceMethod yX7_larger ∈ wsL_law := tb4 81 rfl rfl
theorem wm_4_82 : Cond.code yX7_larger prog_9_method_26_code 5 (some FieldType.int) ∈ wsL_law := tb4 82 rfl rfl
theorem wm_4_83 : Cond.methodLink "FrameTalkModel" 170 yX7_newRow ∈ wsL_law := tb4 83 rfl rfl
theorem wm_4_85 : Cond.instanceMethod yX7_newRow ∈ wsL_law := tb4 85 rfl rfl
theorem wm_4_86 : Cond.code yX7_newRow prog_9_method_27_code 6 (some FieldType.int) ∈ wsL_law := tb4 86 rfl rfl
theorem wm_4_87 : Cond.methodLink "FrameTalkModel" 173 yX7_inRow ∈ wsL_law := tb4 87 rfl rfl
theorem wm_4_89 : Cond.instanceMethod yX7_inRow ∈ wsL_law := tb4 89 rfl rfl
theorem wm_4_90 : Cond.code yX7_inRow prog_9_method_28_code 7 (some FieldType.int) ∈ wsL_law := tb4 90 rfl rfl
theorem wm_4_95 : Cond.methodLink "FrameTalkModel" 179 yX7_thingAt ∈ wsL_law := tb4 95 rfl rfl
theorem wm_4_97 : Cond.instanceMethod yX7_thingAt ∈ wsL_law := tb4 97 rfl rfl
theorem wm_4_98 : Cond.code yX7_thingAt prog_9_method_29_code 2 (some FieldType.int) ∈ wsL_law := tb4 98 rfl rfl
theorem wm_4_122 : Cond.selects "[Ljava/lang/Object;" ⟨"java/lang/Object", "getClass", "()Ljava/lang/Class;"⟩ ⟨"java/lang/Object", "getClass", "()Ljava/lang/Class;"⟩ ∈ wsL_law := tb4 122 rfl rfl
end
section
set_option maxRecDepth 20000 in
theorem inw_8 : ∀ w ∈ u_ws RX7 TX7 28, w ∈ wsL_law := by
  intro w hw
  obtain ⟨i, hi, rfl⟩ := List.mem_map.mp hw
  have hi := List.mem_range.mp hi
  match i, hi with
  | 0, _ => exact wm_3_163
  | 1, _ => exact wm_3_165
  | 2, _ => exact wm_3_167
  | 3, _ => exact wm_3_169
  | 4, _ => exact wm_3_171
  | 5, _ => exact wm_3_173
  | 6, _ => exact wm_3_175
  | 7, _ => exact wm_3_177
  | 8, _ => exact wm_3_179
  | 9, _ => exact wm_3_181
  | 10, _ => exact wm_3_183
  | 11, _ => exact wm_3_185
  | 12, _ => exact wm_3_187
  | 13, _ => exact wm_3_189
  | 14, _ => exact wm_3_191
  | 15, _ => exact wm_3_193
  | 16, _ => exact wm_3_195
  | 17, _ => exact wm_3_197
  | 18, _ => exact wm_3_199
  | 19, _ => exact wm_3_201
  | 20, _ => exact wm_3_203
  | 21, _ => exact wm_3_205
  | 22, _ => exact wm_3_207
  | 23, _ => exact wm_3_209
  | 24, _ => exact wm_3_211
  | 25, _ => exact wm_3_213
  | 26, _ => exact wm_3_215
  | 27, _ => exact wm_3_217
  | i + 28, hi => exact absurd hi (by omega)
set_option maxRecDepth 20000 in
theorem pf_X7_7 {p : Program} {l : Launch} {e : Env} {R : Room} {s : State} {m : MethodId} {args : Array Value} {below : List Frame} {meth : Method} {c : Code} {d : Dp} {A : Nat → Prop} {Q : State → Prop} {nL : Nat} {σ : Sg} {k n pc : Nat} {lv : List (Nat × Value)} {st : List Value} {cc : ByteArray} {ret : Option FieldType} (E : Ev p s m args meth c RX7 cc nL ret d A) {o : Option Nat} {a : Nat} {x : Option Nat} (hini : meth.name = "<init>") (hd : decode cc pc = .ok (.putfield 7, 3)) (ho : o = some a) (hg : gc σ a = 9) (kk : Gk p l e R s m args below meth c d A Q nL (sp σ 800 a x) k n (pc + 3) lv st) : Gk p l e R s m args below meth c d A Q nL σ k n pc lv (va_rf x :: va_rf o :: st) :=
  r_putF (ci := 8) (j := 0) (T := TX7) (rf := "FrameTalkModel") (σ' := sp σ 800 a x) (ty := tyX7 0) E hd wm_3_135 (fun _ h9 => h9) rfl (by decide) inw_8 (by decide) tyX7 tyX7_ok nmX7 rfl hini rfl (tyX7_ok 0 (by decide)) (by cases x <;> rfl) (by cases x <;> rfl) ho hg (by simp [fl]) rfl rfl (fun b hb c => fl_sp hb c) (fun _ _ => rfl) fs_800 kk
set_option maxRecDepth 20000 in
theorem pf_X7_13 {p : Program} {l : Launch} {e : Env} {R : Room} {s : State} {m : MethodId} {args : Array Value} {below : List Frame} {meth : Method} {c : Code} {d : Dp} {A : Nat → Prop} {Q : State → Prop} {nL : Nat} {σ : Sg} {k n pc : Nat} {lv : List (Nat × Value)} {st : List Value} {cc : ByteArray} {ret : Option FieldType} (E : Ev p s m args meth c RX7 cc nL ret d A) {o : Option Nat} {a : Nat} {x : Option Nat} (hini : meth.name = "<init>") (hd : decode cc pc = .ok (.putfield 13, 3)) (ho : o = some a) (hg : gc σ a = 9) (kk : Gk p l e R s m args below meth c d A Q nL (sp σ 801 a x) k n (pc + 3) lv st) : Gk p l e R s m args below meth c d A Q nL σ k n pc lv (va_rf x :: va_rf o :: st) :=
  r_putF (ci := 8) (j := 1) (T := TX7) (rf := "FrameTalkModel") (σ' := sp σ 801 a x) (ty := tyX7 1) E hd wm_3_136 (fun _ h9 => h9) rfl (by decide) inw_8 (by decide) tyX7 tyX7_ok nmX7 rfl hini rfl (tyX7_ok 1 (by decide)) (by cases x <;> rfl) (by cases x <;> rfl) ho hg (by simp [fl]) rfl rfl (fun b hb c => fl_sp hb c) (fun _ _ => rfl) fs_801 kk
set_option maxRecDepth 20000 in
theorem pf_X7_16 {p : Program} {l : Launch} {e : Env} {R : Room} {s : State} {m : MethodId} {args : Array Value} {below : List Frame} {meth : Method} {c : Code} {d : Dp} {A : Nat → Prop} {Q : State → Prop} {nL : Nat} {σ : Sg} {k n pc : Nat} {lv : List (Nat × Value)} {st : List Value} {cc : ByteArray} {ret : Option FieldType} (E : Ev p s m args meth c RX7 cc nL ret d A) {o : Option Nat} {a : Nat} {x : Option Nat} (hini : meth.name = "<init>") (hd : decode cc pc = .ok (.putfield 16, 3)) (ho : o = some a) (hg : gc σ a = 9) (kk : Gk p l e R s m args below meth c d A Q nL (sp σ 802 a x) k n (pc + 3) lv st) : Gk p l e R s m args below meth c d A Q nL σ k n pc lv (va_rf x :: va_rf o :: st) :=
  r_putF (ci := 8) (j := 2) (T := TX7) (rf := "FrameTalkModel") (σ' := sp σ 802 a x) (ty := tyX7 2) E hd wm_3_137 (fun _ h9 => h9) rfl (by decide) inw_8 (by decide) tyX7 tyX7_ok nmX7 rfl hini rfl (tyX7_ok 2 (by decide)) (by cases x <;> rfl) (by cases x <;> rfl) ho hg (by simp [fl]) rfl rfl (fun b hb c => fl_sp hb c) (fun _ _ => rfl) fs_802 kk
set_option maxRecDepth 20000 in
theorem pf_X7_19 {p : Program} {l : Launch} {e : Env} {R : Room} {s : State} {m : MethodId} {args : Array Value} {below : List Frame} {meth : Method} {c : Code} {d : Dp} {A : Nat → Prop} {Q : State → Prop} {nL : Nat} {σ : Sg} {k n pc : Nat} {lv : List (Nat × Value)} {st : List Value} {cc : ByteArray} {ret : Option FieldType} (E : Ev p s m args meth c RX7 cc nL ret d A) {o : Option Nat} {a : Nat} {x : Option Nat} (hini : meth.name = "<init>") (hd : decode cc pc = .ok (.putfield 19, 3)) (ho : o = some a) (hg : gc σ a = 9) (kk : Gk p l e R s m args below meth c d A Q nL (sp σ 803 a x) k n (pc + 3) lv st) : Gk p l e R s m args below meth c d A Q nL σ k n pc lv (va_rf x :: va_rf o :: st) :=
  r_putF (ci := 8) (j := 3) (T := TX7) (rf := "FrameTalkModel") (σ' := sp σ 803 a x) (ty := tyX7 3) E hd wm_3_138 (fun _ h9 => h9) rfl (by decide) inw_8 (by decide) tyX7 tyX7_ok nmX7 rfl hini rfl (tyX7_ok 3 (by decide)) (by cases x <;> rfl) (by cases x <;> rfl) ho hg (by simp [fl]) rfl rfl (fun b hb c => fl_sp hb c) (fun _ _ => rfl) fs_803 kk
set_option maxRecDepth 20000 in
theorem pf_X7_24 {p : Program} {l : Launch} {e : Env} {R : Room} {s : State} {m : MethodId} {args : Array Value} {below : List Frame} {meth : Method} {c : Code} {d : Dp} {A : Nat → Prop} {Q : State → Prop} {nL : Nat} {σ : Sg} {k n pc : Nat} {lv : List (Nat × Value)} {st : List Value} {cc : ByteArray} {ret : Option FieldType} (E : Ev p s m args meth c RX7 cc nL ret d A) {o : Option Nat} {a : Nat} {x : Option Nat} (hini : meth.name = "<init>") (hd : decode cc pc = .ok (.putfield 24, 3)) (ho : o = some a) (hg : gc σ a = 9) (kk : Gk p l e R s m args below meth c d A Q nL (sp σ 805 a x) k n (pc + 3) lv st) : Gk p l e R s m args below meth c d A Q nL σ k n pc lv (va_rf x :: va_rf o :: st) :=
  r_putF (ci := 8) (j := 5) (T := TX7) (rf := "FrameTalkModel") (σ' := sp σ 805 a x) (ty := tyX7 5) E hd wm_3_140 (fun _ h9 => h9) rfl (by decide) inw_8 (by decide) tyX7 tyX7_ok nmX7 rfl hini rfl (tyX7_ok 5 (by decide)) (by cases x <;> rfl) (by cases x <;> rfl) ho hg (by simp [fl]) rfl rfl (fun b hb c => fl_sp hb c) (fun _ _ => rfl) fs_805 kk
set_option maxRecDepth 20000 in
theorem pf_X7_27 {p : Program} {l : Launch} {e : Env} {R : Room} {s : State} {m : MethodId} {args : Array Value} {below : List Frame} {meth : Method} {c : Code} {d : Dp} {A : Nat → Prop} {Q : State → Prop} {nL : Nat} {σ : Sg} {k n pc : Nat} {lv : List (Nat × Value)} {st : List Value} {cc : ByteArray} {ret : Option FieldType} (E : Ev p s m args meth c RX7 cc nL ret d A) {o : Option Nat} {a : Nat} {x : Option Nat} (hini : meth.name = "<init>") (hd : decode cc pc = .ok (.putfield 27, 3)) (ho : o = some a) (hg : gc σ a = 9) (kk : Gk p l e R s m args below meth c d A Q nL (sp σ 806 a x) k n (pc + 3) lv st) : Gk p l e R s m args below meth c d A Q nL σ k n pc lv (va_rf x :: va_rf o :: st) :=
  r_putF (ci := 8) (j := 6) (T := TX7) (rf := "FrameTalkModel") (σ' := sp σ 806 a x) (ty := tyX7 6) E hd wm_3_141 (fun _ h9 => h9) rfl (by decide) inw_8 (by decide) tyX7 tyX7_ok nmX7 rfl hini rfl (tyX7_ok 6 (by decide)) (by cases x <;> rfl) (by cases x <;> rfl) ho hg (by simp [fl]) rfl rfl (fun b hb c => fl_sp hb c) (fun _ _ => rfl) fs_806 kk
set_option maxRecDepth 20000 in
theorem pf_X7_30 {p : Program} {l : Launch} {e : Env} {R : Room} {s : State} {m : MethodId} {args : Array Value} {below : List Frame} {meth : Method} {c : Code} {d : Dp} {A : Nat → Prop} {Q : State → Prop} {nL : Nat} {σ : Sg} {k n pc : Nat} {lv : List (Nat × Value)} {st : List Value} {cc : ByteArray} {ret : Option FieldType} (E : Ev p s m args meth c RX7 cc nL ret d A) {o : Option Nat} {a : Nat} {x : Option Nat} (hini : meth.name = "<init>") (hd : decode cc pc = .ok (.putfield 30, 3)) (ho : o = some a) (hg : gc σ a = 9) (kk : Gk p l e R s m args below meth c d A Q nL (sp σ 807 a x) k n (pc + 3) lv st) : Gk p l e R s m args below meth c d A Q nL σ k n pc lv (va_rf x :: va_rf o :: st) :=
  r_putF (ci := 8) (j := 7) (T := TX7) (rf := "FrameTalkModel") (σ' := sp σ 807 a x) (ty := tyX7 7) E hd wm_3_142 (fun _ h9 => h9) rfl (by decide) inw_8 (by decide) tyX7 tyX7_ok nmX7 rfl hini rfl (tyX7_ok 7 (by decide)) (by cases x <;> rfl) (by cases x <;> rfl) ho hg (by simp [fl]) rfl rfl (fun b hb c => fl_sp hb c) (fun _ _ => rfl) fs_807 kk
set_option maxRecDepth 20000 in
theorem pf_X7_33 {p : Program} {l : Launch} {e : Env} {R : Room} {s : State} {m : MethodId} {args : Array Value} {below : List Frame} {meth : Method} {c : Code} {d : Dp} {A : Nat → Prop} {Q : State → Prop} {nL : Nat} {σ : Sg} {k n pc : Nat} {lv : List (Nat × Value)} {st : List Value} {cc : ByteArray} {ret : Option FieldType} (E : Ev p s m args meth c RX7 cc nL ret d A) {o : Option Nat} {a : Nat} {x : Option Nat} (hini : meth.name = "<init>") (hd : decode cc pc = .ok (.putfield 33, 3)) (ho : o = some a) (hg : gc σ a = 9) (kk : Gk p l e R s m args below meth c d A Q nL (sp σ 808 a x) k n (pc + 3) lv st) : Gk p l e R s m args below meth c d A Q nL σ k n pc lv (va_rf x :: va_rf o :: st) :=
  r_putF (ci := 8) (j := 8) (T := TX7) (rf := "FrameTalkModel") (σ' := sp σ 808 a x) (ty := tyX7 8) E hd wm_3_143 (fun _ h9 => h9) rfl (by decide) inw_8 (by decide) tyX7 tyX7_ok nmX7 rfl hini rfl (tyX7_ok 8 (by decide)) (by cases x <;> rfl) (by cases x <;> rfl) ho hg (by simp [fl]) rfl rfl (fun b hb c => fl_sp hb c) (fun _ _ => rfl) fs_808 kk
set_option maxRecDepth 20000 in
theorem pf_X7_36 {p : Program} {l : Launch} {e : Env} {R : Room} {s : State} {m : MethodId} {args : Array Value} {below : List Frame} {meth : Method} {c : Code} {d : Dp} {A : Nat → Prop} {Q : State → Prop} {nL : Nat} {σ : Sg} {k n pc : Nat} {lv : List (Nat × Value)} {st : List Value} {cc : ByteArray} {ret : Option FieldType} (E : Ev p s m args meth c RX7 cc nL ret d A) {o : Option Nat} {a : Nat} {x : Option Nat} (hini : meth.name = "<init>") (hd : decode cc pc = .ok (.putfield 36, 3)) (ho : o = some a) (hg : gc σ a = 9) (kk : Gk p l e R s m args below meth c d A Q nL (sp σ 810 a x) k n (pc + 3) lv st) : Gk p l e R s m args below meth c d A Q nL σ k n pc lv (va_rf x :: va_rf o :: st) :=
  r_putF (ci := 8) (j := 10) (T := TX7) (rf := "FrameTalkModel") (σ' := sp σ 810 a x) (ty := tyX7 10) E hd wm_3_145 (fun _ h9 => h9) rfl (by decide) inw_8 (by decide) tyX7 tyX7_ok nmX7 rfl hini rfl (tyX7_ok 10 (by decide)) (by cases x <;> rfl) (by cases x <;> rfl) ho hg (by simp [fl]) rfl rfl (fun b hb c => fl_sp hb c) (fun _ _ => rfl) fs_810 kk
set_option maxRecDepth 20000 in
theorem pf_X7_39 {p : Program} {l : Launch} {e : Env} {R : Room} {s : State} {m : MethodId} {args : Array Value} {below : List Frame} {meth : Method} {c : Code} {d : Dp} {A : Nat → Prop} {Q : State → Prop} {nL : Nat} {σ : Sg} {k n pc : Nat} {lv : List (Nat × Value)} {st : List Value} {cc : ByteArray} {ret : Option FieldType} (E : Ev p s m args meth c RX7 cc nL ret d A) {o : Option Nat} {a : Nat} {x : Option Nat} (hini : meth.name = "<init>") (hd : decode cc pc = .ok (.putfield 39, 3)) (ho : o = some a) (hg : gc σ a = 9) (kk : Gk p l e R s m args below meth c d A Q nL (sp σ 812 a x) k n (pc + 3) lv st) : Gk p l e R s m args below meth c d A Q nL σ k n pc lv (va_rf x :: va_rf o :: st) :=
  r_putF (ci := 8) (j := 12) (T := TX7) (rf := "FrameTalkModel") (σ' := sp σ 812 a x) (ty := tyX7 12) E hd wm_3_147 (fun _ h9 => h9) rfl (by decide) inw_8 (by decide) tyX7 tyX7_ok nmX7 rfl hini rfl (tyX7_ok 12 (by decide)) (by cases x <;> rfl) (by cases x <;> rfl) ho hg (by simp [fl]) rfl rfl (fun b hb c => fl_sp hb c) (fun _ _ => rfl) fs_812 kk
set_option maxRecDepth 20000 in
theorem pf_X7_42 {p : Program} {l : Launch} {e : Env} {R : Room} {s : State} {m : MethodId} {args : Array Value} {below : List Frame} {meth : Method} {c : Code} {d : Dp} {A : Nat → Prop} {Q : State → Prop} {nL : Nat} {σ : Sg} {k n pc : Nat} {lv : List (Nat × Value)} {st : List Value} {cc : ByteArray} {ret : Option FieldType} (E : Ev p s m args meth c RX7 cc nL ret d A) {o : Option Nat} {a : Nat} {x : Int32} (hd : decode cc pc = .ok (.putfield 42, 3)) (ho : o = some a) (hg : gc σ a = 9) (kk : Gk p l e R s m args below meth c d A Q nL (si σ 813 a x) k n (pc + 3) lv st) : Gk p l e R s m args below meth c d A Q nL σ k n pc lv (.int x :: va_rf o :: st) :=
  r_put (ci := 8) (j := 13) (T := TX7) (rf := "FrameTalkModel") (σ' := si σ 813 a x) (ty := tyX7 13) E hd wm_3_148 (fun _ h9 => h9) rfl (by decide) inw_8 (by decide) tyX7 tyX7_ok nmX7 rfl (tyX7_ok 13 (by decide)) rfl rfl ho hg (by simp [fl]) rfl rfl (fun b hb c => fl_si hb c) (fun _ _ => rfl) fs_813 kk
set_option maxRecDepth 20000 in
theorem pf_X7_46 {p : Program} {l : Launch} {e : Env} {R : Room} {s : State} {m : MethodId} {args : Array Value} {below : List Frame} {meth : Method} {c : Code} {d : Dp} {A : Nat → Prop} {Q : State → Prop} {nL : Nat} {σ : Sg} {k n pc : Nat} {lv : List (Nat × Value)} {st : List Value} {cc : ByteArray} {ret : Option FieldType} (E : Ev p s m args meth c RX7 cc nL ret d A) {o : Option Nat} {a : Nat} {x : Option Nat} (hini : meth.name = "<init>") (hd : decode cc pc = .ok (.putfield 46, 3)) (ho : o = some a) (hg : gc σ a = 9) (kk : Gk p l e R s m args below meth c d A Q nL (sp σ 814 a x) k n (pc + 3) lv st) : Gk p l e R s m args below meth c d A Q nL σ k n pc lv (va_rf x :: va_rf o :: st) :=
  r_putF (ci := 8) (j := 14) (T := TX7) (rf := "FrameTalkModel") (σ' := sp σ 814 a x) (ty := tyX7 14) E hd wm_3_149 (fun _ h9 => h9) rfl (by decide) inw_8 (by decide) tyX7 tyX7_ok nmX7 rfl hini rfl (tyX7_ok 14 (by decide)) (by cases x <;> rfl) (by cases x <;> rfl) ho hg (by simp [fl]) rfl rfl (fun b hb c => fl_sp hb c) (fun _ _ => rfl) fs_814 kk
set_option maxRecDepth 20000 in
theorem pf_X7_49 {p : Program} {l : Launch} {e : Env} {R : Room} {s : State} {m : MethodId} {args : Array Value} {below : List Frame} {meth : Method} {c : Code} {d : Dp} {A : Nat → Prop} {Q : State → Prop} {nL : Nat} {σ : Sg} {k n pc : Nat} {lv : List (Nat × Value)} {st : List Value} {cc : ByteArray} {ret : Option FieldType} (E : Ev p s m args meth c RX7 cc nL ret d A) {o : Option Nat} {a : Nat} {x : Option Nat} (hini : meth.name = "<init>") (hd : decode cc pc = .ok (.putfield 49, 3)) (ho : o = some a) (hg : gc σ a = 9) (kk : Gk p l e R s m args below meth c d A Q nL (sp σ 815 a x) k n (pc + 3) lv st) : Gk p l e R s m args below meth c d A Q nL σ k n pc lv (va_rf x :: va_rf o :: st) :=
  r_putF (ci := 8) (j := 15) (T := TX7) (rf := "FrameTalkModel") (σ' := sp σ 815 a x) (ty := tyX7 15) E hd wm_3_150 (fun _ h9 => h9) rfl (by decide) inw_8 (by decide) tyX7 tyX7_ok nmX7 rfl hini rfl (tyX7_ok 15 (by decide)) (by cases x <;> rfl) (by cases x <;> rfl) ho hg (by simp [fl]) rfl rfl (fun b hb c => fl_sp hb c) (fun _ _ => rfl) fs_815 kk
set_option maxRecDepth 20000 in
theorem pf_X7_52 {p : Program} {l : Launch} {e : Env} {R : Room} {s : State} {m : MethodId} {args : Array Value} {below : List Frame} {meth : Method} {c : Code} {d : Dp} {A : Nat → Prop} {Q : State → Prop} {nL : Nat} {σ : Sg} {k n pc : Nat} {lv : List (Nat × Value)} {st : List Value} {cc : ByteArray} {ret : Option FieldType} (E : Ev p s m args meth c RX7 cc nL ret d A) {o : Option Nat} {a : Nat} {x : Option Nat} (hini : meth.name = "<init>") (hd : decode cc pc = .ok (.putfield 52, 3)) (ho : o = some a) (hg : gc σ a = 9) (kk : Gk p l e R s m args below meth c d A Q nL (sp σ 816 a x) k n (pc + 3) lv st) : Gk p l e R s m args below meth c d A Q nL σ k n pc lv (va_rf x :: va_rf o :: st) :=
  r_putF (ci := 8) (j := 16) (T := TX7) (rf := "FrameTalkModel") (σ' := sp σ 816 a x) (ty := tyX7 16) E hd wm_3_151 (fun _ h9 => h9) rfl (by decide) inw_8 (by decide) tyX7 tyX7_ok nmX7 rfl hini rfl (tyX7_ok 16 (by decide)) (by cases x <;> rfl) (by cases x <;> rfl) ho hg (by simp [fl]) rfl rfl (fun b hb c => fl_sp hb c) (fun _ _ => rfl) fs_816 kk
set_option maxRecDepth 20000 in
theorem pf_X7_55 {p : Program} {l : Launch} {e : Env} {R : Room} {s : State} {m : MethodId} {args : Array Value} {below : List Frame} {meth : Method} {c : Code} {d : Dp} {A : Nat → Prop} {Q : State → Prop} {nL : Nat} {σ : Sg} {k n pc : Nat} {lv : List (Nat × Value)} {st : List Value} {cc : ByteArray} {ret : Option FieldType} (E : Ev p s m args meth c RX7 cc nL ret d A) {o : Option Nat} {a : Nat} {x : Option Nat} (hini : meth.name = "<init>") (hd : decode cc pc = .ok (.putfield 55, 3)) (ho : o = some a) (hg : gc σ a = 9) (kk : Gk p l e R s m args below meth c d A Q nL (sp σ 817 a x) k n (pc + 3) lv st) : Gk p l e R s m args below meth c d A Q nL σ k n pc lv (va_rf x :: va_rf o :: st) :=
  r_putF (ci := 8) (j := 17) (T := TX7) (rf := "FrameTalkModel") (σ' := sp σ 817 a x) (ty := tyX7 17) E hd wm_3_152 (fun _ h9 => h9) rfl (by decide) inw_8 (by decide) tyX7 tyX7_ok nmX7 rfl hini rfl (tyX7_ok 17 (by decide)) (by cases x <;> rfl) (by cases x <;> rfl) ho hg (by simp [fl]) rfl rfl (fun b hb c => fl_sp hb c) (fun _ _ => rfl) fs_817 kk
set_option maxRecDepth 20000 in
theorem pf_X7_58 {p : Program} {l : Launch} {e : Env} {R : Room} {s : State} {m : MethodId} {args : Array Value} {below : List Frame} {meth : Method} {c : Code} {d : Dp} {A : Nat → Prop} {Q : State → Prop} {nL : Nat} {σ : Sg} {k n pc : Nat} {lv : List (Nat × Value)} {st : List Value} {cc : ByteArray} {ret : Option FieldType} (E : Ev p s m args meth c RX7 cc nL ret d A) {o : Option Nat} {a : Nat} {x : Int32} (hd : decode cc pc = .ok (.putfield 58, 3)) (ho : o = some a) (hg : gc σ a = 9) (kk : Gk p l e R s m args below meth c d A Q nL (si σ 825 a x) k n (pc + 3) lv st) : Gk p l e R s m args below meth c d A Q nL σ k n pc lv (.int x :: va_rf o :: st) :=
  r_put (ci := 8) (j := 25) (T := TX7) (rf := "FrameTalkModel") (σ' := si σ 825 a x) (ty := tyX7 25) E hd wm_3_160 (fun _ h9 => h9) rfl (by decide) inw_8 (by decide) tyX7 tyX7_ok nmX7 rfl (tyX7_ok 25 (by decide)) rfl rfl ho hg (by simp [fl]) rfl rfl (fun b hb c => fl_si hb c) (fun _ _ => rfl) fs_825 kk
set_option maxRecDepth 20000 in
theorem pf_X7_61 {p : Program} {l : Launch} {e : Env} {R : Room} {s : State} {m : MethodId} {args : Array Value} {below : List Frame} {meth : Method} {c : Code} {d : Dp} {A : Nat → Prop} {Q : State → Prop} {nL : Nat} {σ : Sg} {k n pc : Nat} {lv : List (Nat × Value)} {st : List Value} {cc : ByteArray} {ret : Option FieldType} (E : Ev p s m args meth c RX7 cc nL ret d A) {o : Option Nat} {a : Nat} {x : Int32} (hd : decode cc pc = .ok (.putfield 61, 3)) (ho : o = some a) (hg : gc σ a = 9) (kk : Gk p l e R s m args below meth c d A Q nL (si σ 827 a x) k n (pc + 3) lv st) : Gk p l e R s m args below meth c d A Q nL σ k n pc lv (.int x :: va_rf o :: st) :=
  r_put (ci := 8) (j := 27) (T := TX7) (rf := "FrameTalkModel") (σ' := si σ 827 a x) (ty := tyX7 27) E hd wm_3_162 (fun _ h9 => h9) rfl (by decide) inw_8 (by decide) tyX7 tyX7_ok nmX7 rfl (tyX7_ok 27 (by decide)) rfl rfl ho hg (by simp [fl]) rfl rfl (fun b hb c => fl_si hb c) (fun _ _ => rfl) fs_827 kk
set_option maxRecDepth 20000 in
theorem gf_X7_39 {p : Program} {l : Launch} {e : Env} {R : Room} {s : State} {m : MethodId} {args : Array Value} {below : List Frame} {meth : Method} {c : Code} {d : Dp} {A : Nat → Prop} {Q : State → Prop} {nL : Nat} {σ : Sg} {k n pc : Nat} {lv : List (Nat × Value)} {st : List Value} {cc : ByteArray} {ret : Option FieldType} (E : Ev p s m args meth c RX7 cc nL ret d A) {o : Option Nat} {a : Nat} {x : Option Nat} (hd : decode cc pc = .ok (.getfield 39, 3)) (ho : o = some a) (hg : gc σ a = 9) (hx : gp σ 812 a = x) (kk : Gk p l e R s m args below meth c d A Q nL σ k n (pc + 3) lv (va_rf x :: st)) : Gk p l e R s m args below meth c d A Q nL σ k n pc lv (va_rf o :: st) := by
  subst hx
  exact r_get (ci := 8) (j := 12) (T := TX7) (rf := "FrameTalkModel") E hd wm_3_147 (fun _ h9 => h9) rfl (by decide) inw_8 (by decide) ho hg rfl kk
set_option maxRecDepth 20000 in
theorem gf_X7_64 {p : Program} {l : Launch} {e : Env} {R : Room} {s : State} {m : MethodId} {args : Array Value} {below : List Frame} {meth : Method} {c : Code} {d : Dp} {A : Nat → Prop} {Q : State → Prop} {nL : Nat} {σ : Sg} {k n pc : Nat} {lv : List (Nat × Value)} {st : List Value} {cc : ByteArray} {ret : Option FieldType} (E : Ev p s m args meth c RX7 cc nL ret d A) {o : Option Nat} {a : Nat} {x : Int32} (hd : decode cc pc = .ok (.getfield 64, 3)) (ho : o = some a) (hg : gc σ a = 9) (hx : gi σ 804 a = x) (kk : Gk p l e R s m args below meth c d A Q nL σ k n (pc + 3) lv (.int x :: st)) : Gk p l e R s m args below meth c d A Q nL σ k n pc lv (va_rf o :: st) := by
  subst hx
  exact r_get (ci := 8) (j := 4) (T := TX7) (rf := "FrameTalkModel") E hd wm_3_139 (fun _ h9 => h9) rfl (by decide) inw_8 (by decide) ho hg rfl kk
set_option maxRecDepth 20000 in
theorem gf_X7_13 {p : Program} {l : Launch} {e : Env} {R : Room} {s : State} {m : MethodId} {args : Array Value} {below : List Frame} {meth : Method} {c : Code} {d : Dp} {A : Nat → Prop} {Q : State → Prop} {nL : Nat} {σ : Sg} {k n pc : Nat} {lv : List (Nat × Value)} {st : List Value} {cc : ByteArray} {ret : Option FieldType} (E : Ev p s m args meth c RX7 cc nL ret d A) {o : Option Nat} {a : Nat} {x : Option Nat} (hd : decode cc pc = .ok (.getfield 13, 3)) (ho : o = some a) (hg : gc σ a = 9) (hx : gp σ 801 a = x) (kk : Gk p l e R s m args below meth c d A Q nL σ k n (pc + 3) lv (va_rf x :: st)) : Gk p l e R s m args below meth c d A Q nL σ k n pc lv (va_rf o :: st) := by
  subst hx
  exact r_get (ci := 8) (j := 1) (T := TX7) (rf := "FrameTalkModel") E hd wm_3_136 (fun _ h9 => h9) rfl (by decide) inw_8 (by decide) ho hg rfl kk
set_option maxRecDepth 20000 in
theorem gf_X7_19 {p : Program} {l : Launch} {e : Env} {R : Room} {s : State} {m : MethodId} {args : Array Value} {below : List Frame} {meth : Method} {c : Code} {d : Dp} {A : Nat → Prop} {Q : State → Prop} {nL : Nat} {σ : Sg} {k n pc : Nat} {lv : List (Nat × Value)} {st : List Value} {cc : ByteArray} {ret : Option FieldType} (E : Ev p s m args meth c RX7 cc nL ret d A) {o : Option Nat} {a : Nat} {x : Option Nat} (hd : decode cc pc = .ok (.getfield 19, 3)) (ho : o = some a) (hg : gc σ a = 9) (hx : gp σ 803 a = x) (kk : Gk p l e R s m args below meth c d A Q nL σ k n (pc + 3) lv (va_rf x :: st)) : Gk p l e R s m args below meth c d A Q nL σ k n pc lv (va_rf o :: st) := by
  subst hx
  exact r_get (ci := 8) (j := 3) (T := TX7) (rf := "FrameTalkModel") E hd wm_3_138 (fun _ h9 => h9) rfl (by decide) inw_8 (by decide) ho hg rfl kk
set_option maxRecDepth 20000 in
theorem pf_X7_64 {p : Program} {l : Launch} {e : Env} {R : Room} {s : State} {m : MethodId} {args : Array Value} {below : List Frame} {meth : Method} {c : Code} {d : Dp} {A : Nat → Prop} {Q : State → Prop} {nL : Nat} {σ : Sg} {k n pc : Nat} {lv : List (Nat × Value)} {st : List Value} {cc : ByteArray} {ret : Option FieldType} (E : Ev p s m args meth c RX7 cc nL ret d A) {o : Option Nat} {a : Nat} {x : Int32} (hd : decode cc pc = .ok (.putfield 64, 3)) (ho : o = some a) (hg : gc σ a = 9) (kk : Gk p l e R s m args below meth c d A Q nL (si σ 804 a x) k n (pc + 3) lv st) : Gk p l e R s m args below meth c d A Q nL σ k n pc lv (.int x :: va_rf o :: st) :=
  r_put (ci := 8) (j := 4) (T := TX7) (rf := "FrameTalkModel") (σ' := si σ 804 a x) (ty := tyX7 4) E hd wm_3_139 (fun _ h9 => h9) rfl (by decide) inw_8 (by decide) tyX7 tyX7_ok nmX7 rfl (tyX7_ok 4 (by decide)) rfl rfl ho hg (by simp [fl]) rfl rfl (fun b hb c => fl_si hb c) (fun _ _ => rfl) fs_804 kk
set_option maxRecDepth 20000 in
theorem gf_X7_7 {p : Program} {l : Launch} {e : Env} {R : Room} {s : State} {m : MethodId} {args : Array Value} {below : List Frame} {meth : Method} {c : Code} {d : Dp} {A : Nat → Prop} {Q : State → Prop} {nL : Nat} {σ : Sg} {k n pc : Nat} {lv : List (Nat × Value)} {st : List Value} {cc : ByteArray} {ret : Option FieldType} (E : Ev p s m args meth c RX7 cc nL ret d A) {o : Option Nat} {a : Nat} {x : Option Nat} (hd : decode cc pc = .ok (.getfield 7, 3)) (ho : o = some a) (hg : gc σ a = 9) (hx : gp σ 800 a = x) (kk : Gk p l e R s m args below meth c d A Q nL σ k n (pc + 3) lv (va_rf x :: st)) : Gk p l e R s m args below meth c d A Q nL σ k n pc lv (va_rf o :: st) := by
  subst hx
  exact r_get (ci := 8) (j := 0) (T := TX7) (rf := "FrameTalkModel") E hd wm_3_135 (fun _ h9 => h9) rfl (by decide) inw_8 (by decide) ho hg rfl kk
set_option maxRecDepth 20000 in
theorem gf_X7_16 {p : Program} {l : Launch} {e : Env} {R : Room} {s : State} {m : MethodId} {args : Array Value} {below : List Frame} {meth : Method} {c : Code} {d : Dp} {A : Nat → Prop} {Q : State → Prop} {nL : Nat} {σ : Sg} {k n pc : Nat} {lv : List (Nat × Value)} {st : List Value} {cc : ByteArray} {ret : Option FieldType} (E : Ev p s m args meth c RX7 cc nL ret d A) {o : Option Nat} {a : Nat} {x : Option Nat} (hd : decode cc pc = .ok (.getfield 16, 3)) (ho : o = some a) (hg : gc σ a = 9) (hx : gp σ 802 a = x) (kk : Gk p l e R s m args below meth c d A Q nL σ k n (pc + 3) lv (va_rf x :: st)) : Gk p l e R s m args below meth c d A Q nL σ k n pc lv (va_rf o :: st) := by
  subst hx
  exact r_get (ci := 8) (j := 2) (T := TX7) (rf := "FrameTalkModel") E hd wm_3_137 (fun _ h9 => h9) rfl (by decide) inw_8 (by decide) ho hg rfl kk
set_option maxRecDepth 20000 in
theorem cl_X7_67 {p : Program} {l : Launch} {e : Env} {R : Room} {s : State} {m : MethodId} {args : Array Value} {below : List Frame} {meth : Method} {c : Code} {d : Dp} {A : Nat → Prop} {Q : State → Prop} {nL : Nat} {σ : Sg} {k n pc : Nat} {lv : List (Nat × Value)} {cc : ByteArray} {ret : Option FieldType} (E : Ev p s m args meth c RX7 cc nL ret d A) {o : Option Nat} {b : Nat} {x1 : Int32} {x2 : Int32} {r : Int32} {rest : List Value} {σ1 : Sg} (hM : Mt l d yX7_isNode cX7_isNode 3 (some .boolean) 0 0 σ [.ref b, .int x1, .int x2] (some (.int r)) σ1 0 0) (hd : decode cc pc = .ok (.invokevirtual 67, 3)) (hR : 0 + 1 ≤ R.frames ∧ 8 + (3 + 11) + 0 ≤ R.locals) (hf : k + 0 ≤ R.cells ∧ n + 0 ≤ R.slots) (hcat : (rest.map fun v => v.category).sum ≤ 8) (ho : o = some b) (hg : gc σ b = 9) (kk : Gk p l e R s m args below meth c d A Q nL σ1 k n (pc + 3) lv (.int r :: rest)) : Gk p l e R s m args below meth c d A Q nL σ k n pc lv (.int x2 :: .int x1 :: va_rf o :: rest) :=
  r_cV (As := [.int x1, .int x2]) (rest := rest) (ci := 8) (nA := 2) E hM hd wm_3_234 wm_3_236 wm_p_33 wm_1_9 wm_3_237 rfl ⟨by decide, by decide, by decide +kernel⟩ rfl hR hf rfl (by decide) ho hg rfl hcat kk
set_option maxRecDepth 20000 in
theorem cl_X7_71 {p : Program} {l : Launch} {e : Env} {R : Room} {s : State} {m : MethodId} {args : Array Value} {below : List Frame} {meth : Method} {c : Code} {d : Dp} {A : Nat → Prop} {Q : State → Prop} {nL : Nat} {σ : Sg} {k n pc : Nat} {lv : List (Nat × Value)} {cc : ByteArray} {ret : Option FieldType} (E : Ev p s m args meth c RX7 cc nL ret d A) {o : Option Nat} {b : Nat} {x1 : Int32} {x2 : Int32} {x3 : Int32}  {rest : List Value} {σ1 : Sg} (hM : Mt l d yX7_join cX7_join 4 none 1 22 σ [.ref b, .int x1, .int x2, .int x3] none σ1 0 0) (hd : decode cc pc = .ok (.invokevirtual 71, 3)) (hR : 1 + 1 ≤ R.frames ∧ 8 + (4 + 11) + 22 ≤ R.locals) (hf : k + 0 ≤ R.cells ∧ n + 0 ≤ R.slots) (hcat : (rest.map fun v => v.category).sum ≤ 8) (ho : o = some b) (hg : gc σ b = 9) (kk : Gk p l e R s m args below meth c d A Q nL σ1 k n (pc + 3) lv rest) : Gk p l e R s m args below meth c d A Q nL σ k n pc lv (.int x3 :: .int x2 :: .int x1 :: va_rf o :: rest) :=
  r_cV (As := [.int x1, .int x2, .int x3]) (rest := rest) (ci := 8) (nA := 3) E hM hd wm_3_230 wm_3_232 wm_p_32 wm_1_9 wm_3_233 rfl ⟨by decide, by decide, by decide +kernel⟩ rfl hR hf rfl (by decide) ho hg rfl hcat kk
set_option maxRecDepth 20000 in
theorem gf_X7_75 {p : Program} {l : Launch} {e : Env} {R : Room} {s : State} {m : MethodId} {args : Array Value} {below : List Frame} {meth : Method} {c : Code} {d : Dp} {A : Nat → Prop} {Q : State → Prop} {nL : Nat} {σ : Sg} {k n pc : Nat} {lv : List (Nat × Value)} {st : List Value} {cc : ByteArray} {ret : Option FieldType} (E : Ev p s m args meth c RX7 cc nL ret d A) {o : Option Nat} {a : Nat} {x : Int32} (hd : decode cc pc = .ok (.getfield 75, 3)) (ho : o = some a) (hg : gc σ a = 9) (hx : gi σ 809 a = x) (kk : Gk p l e R s m args below meth c d A Q nL σ k n (pc + 3) lv (.int x :: st)) : Gk p l e R s m args below meth c d A Q nL σ k n pc lv (va_rf o :: st) := by
  subst hx
  exact r_get (ci := 8) (j := 9) (T := TX7) (rf := "FrameTalkModel") E hd wm_3_144 (fun _ h9 => h9) rfl (by decide) inw_8 (by decide) ho hg rfl kk
set_option maxRecDepth 20000 in
theorem pf_X7_75 {p : Program} {l : Launch} {e : Env} {R : Room} {s : State} {m : MethodId} {args : Array Value} {below : List Frame} {meth : Method} {c : Code} {d : Dp} {A : Nat → Prop} {Q : State → Prop} {nL : Nat} {σ : Sg} {k n pc : Nat} {lv : List (Nat × Value)} {st : List Value} {cc : ByteArray} {ret : Option FieldType} (E : Ev p s m args meth c RX7 cc nL ret d A) {o : Option Nat} {a : Nat} {x : Int32} (hd : decode cc pc = .ok (.putfield 75, 3)) (ho : o = some a) (hg : gc σ a = 9) (kk : Gk p l e R s m args below meth c d A Q nL (si σ 809 a x) k n (pc + 3) lv st) : Gk p l e R s m args below meth c d A Q nL σ k n pc lv (.int x :: va_rf o :: st) :=
  r_put (ci := 8) (j := 9) (T := TX7) (rf := "FrameTalkModel") (σ' := si σ 809 a x) (ty := tyX7 9) E hd wm_3_144 (fun _ h9 => h9) rfl (by decide) inw_8 (by decide) tyX7 tyX7_ok nmX7 rfl (tyX7_ok 9 (by decide)) rfl rfl ho hg (by simp [fl]) rfl rfl (fun b hb c => fl_si hb c) (fun _ _ => rfl) fs_809 kk
set_option maxRecDepth 20000 in
theorem gf_X7_24 {p : Program} {l : Launch} {e : Env} {R : Room} {s : State} {m : MethodId} {args : Array Value} {below : List Frame} {meth : Method} {c : Code} {d : Dp} {A : Nat → Prop} {Q : State → Prop} {nL : Nat} {σ : Sg} {k n pc : Nat} {lv : List (Nat × Value)} {st : List Value} {cc : ByteArray} {ret : Option FieldType} (E : Ev p s m args meth c RX7 cc nL ret d A) {o : Option Nat} {a : Nat} {x : Option Nat} (hd : decode cc pc = .ok (.getfield 24, 3)) (ho : o = some a) (hg : gc σ a = 9) (hx : gp σ 805 a = x) (kk : Gk p l e R s m args below meth c d A Q nL σ k n (pc + 3) lv (va_rf x :: st)) : Gk p l e R s m args below meth c d A Q nL σ k n pc lv (va_rf o :: st) := by
  subst hx
  exact r_get (ci := 8) (j := 5) (T := TX7) (rf := "FrameTalkModel") E hd wm_3_140 (fun _ h9 => h9) rfl (by decide) inw_8 (by decide) ho hg rfl kk
set_option maxRecDepth 20000 in
theorem gf_X7_33 {p : Program} {l : Launch} {e : Env} {R : Room} {s : State} {m : MethodId} {args : Array Value} {below : List Frame} {meth : Method} {c : Code} {d : Dp} {A : Nat → Prop} {Q : State → Prop} {nL : Nat} {σ : Sg} {k n pc : Nat} {lv : List (Nat × Value)} {st : List Value} {cc : ByteArray} {ret : Option FieldType} (E : Ev p s m args meth c RX7 cc nL ret d A) {o : Option Nat} {a : Nat} {x : Option Nat} (hd : decode cc pc = .ok (.getfield 33, 3)) (ho : o = some a) (hg : gc σ a = 9) (hx : gp σ 808 a = x) (kk : Gk p l e R s m args below meth c d A Q nL σ k n (pc + 3) lv (va_rf x :: st)) : Gk p l e R s m args below meth c d A Q nL σ k n pc lv (va_rf o :: st) := by
  subst hx
  exact r_get (ci := 8) (j := 8) (T := TX7) (rf := "FrameTalkModel") E hd wm_3_143 (fun _ h9 => h9) rfl (by decide) inw_8 (by decide) ho hg rfl kk
set_option maxRecDepth 20000 in
theorem gf_X7_27 {p : Program} {l : Launch} {e : Env} {R : Room} {s : State} {m : MethodId} {args : Array Value} {below : List Frame} {meth : Method} {c : Code} {d : Dp} {A : Nat → Prop} {Q : State → Prop} {nL : Nat} {σ : Sg} {k n pc : Nat} {lv : List (Nat × Value)} {st : List Value} {cc : ByteArray} {ret : Option FieldType} (E : Ev p s m args meth c RX7 cc nL ret d A) {o : Option Nat} {a : Nat} {x : Option Nat} (hd : decode cc pc = .ok (.getfield 27, 3)) (ho : o = some a) (hg : gc σ a = 9) (hx : gp σ 806 a = x) (kk : Gk p l e R s m args below meth c d A Q nL σ k n (pc + 3) lv (va_rf x :: st)) : Gk p l e R s m args below meth c d A Q nL σ k n pc lv (va_rf o :: st) := by
  subst hx
  exact r_get (ci := 8) (j := 6) (T := TX7) (rf := "FrameTalkModel") E hd wm_3_141 (fun _ h9 => h9) rfl (by decide) inw_8 (by decide) ho hg rfl kk
set_option maxRecDepth 20000 in
theorem gf_X7_30 {p : Program} {l : Launch} {e : Env} {R : Room} {s : State} {m : MethodId} {args : Array Value} {below : List Frame} {meth : Method} {c : Code} {d : Dp} {A : Nat → Prop} {Q : State → Prop} {nL : Nat} {σ : Sg} {k n pc : Nat} {lv : List (Nat × Value)} {st : List Value} {cc : ByteArray} {ret : Option FieldType} (E : Ev p s m args meth c RX7 cc nL ret d A) {o : Option Nat} {a : Nat} {x : Option Nat} (hd : decode cc pc = .ok (.getfield 30, 3)) (ho : o = some a) (hg : gc σ a = 9) (hx : gp σ 807 a = x) (kk : Gk p l e R s m args below meth c d A Q nL σ k n (pc + 3) lv (va_rf x :: st)) : Gk p l e R s m args below meth c d A Q nL σ k n pc lv (va_rf o :: st) := by
  subst hx
  exact r_get (ci := 8) (j := 7) (T := TX7) (rf := "FrameTalkModel") E hd wm_3_142 (fun _ h9 => h9) rfl (by decide) inw_8 (by decide) ho hg rfl kk
set_option maxRecDepth 20000 in
theorem cl_X7_78 {p : Program} {l : Launch} {e : Env} {R : Room} {s : State} {m : MethodId} {args : Array Value} {below : List Frame} {meth : Method} {c : Code} {d : Dp} {A : Nat → Prop} {Q : State → Prop} {nL : Nat} {σ : Sg} {k n pc : Nat} {lv : List (Nat × Value)} {cc : ByteArray} {ret : Option FieldType} (E : Ev p s m args meth c RX7 cc nL ret d A) {o : Option Nat} {b : Nat} {x1 : Int32} {x2 : Int64} {x3 : Int32} {x4 : Int32} {r : Int32} {rest : List Value} {σ1 : Sg} (hM : Mt l d yX7_make cX7_make 7 (some .int) 0 0 σ [.ref b, .int x1, .long x2, .int x3, .int x4] (some (.int r)) σ1 0 0) (hd : decode cc pc = .ok (.invokevirtual 78, 3)) (hR : 0 + 1 ≤ R.frames ∧ 8 + (7 + 11) + 0 ≤ R.locals) (hf : k + 0 ≤ R.cells ∧ n + 0 ≤ R.slots) (hcat : (rest.map fun v => v.category).sum ≤ 8) (ho : o = some b) (hg : gc σ b = 9) (kk : Gk p l e R s m args below meth c d A Q nL σ1 k n (pc + 3) lv (.int r :: rest)) : Gk p l e R s m args below meth c d A Q nL σ k n pc lv (.int x4 :: .int x3 :: .long x2 :: .int x1 :: va_rf o :: rest) :=
  r_cV (As := [.int x1, .long x2, .int x3, .int x4]) (rest := rest) (ci := 8) (nA := 4) E hM hd wm_4_26 wm_4_28 wm_p_39 wm_1_9 wm_4_29 rfl ⟨by decide, by decide, by decide +kernel⟩ rfl hR hf rfl (by decide) ho hg rfl hcat kk
set_option maxRecDepth 20000 in
theorem pf_X7_82 {p : Program} {l : Launch} {e : Env} {R : Room} {s : State} {m : MethodId} {args : Array Value} {below : List Frame} {meth : Method} {c : Code} {d : Dp} {A : Nat → Prop} {Q : State → Prop} {nL : Nat} {σ : Sg} {k n pc : Nat} {lv : List (Nat × Value)} {st : List Value} {cc : ByteArray} {ret : Option FieldType} (E : Ev p s m args meth c RX7 cc nL ret d A) {o : Option Nat} {a : Nat} {x : Int32} (hd : decode cc pc = .ok (.putfield 82, 3)) (ho : o = some a) (hg : gc σ a = 9) (kk : Gk p l e R s m args below meth c d A Q nL (si σ 820 a x) k n (pc + 3) lv st) : Gk p l e R s m args below meth c d A Q nL σ k n pc lv (.int x :: va_rf o :: st) :=
  r_put (ci := 8) (j := 20) (T := TX7) (rf := "FrameTalkModel") (σ' := si σ 820 a x) (ty := tyX7 20) E hd wm_3_155 (fun _ h9 => h9) rfl (by decide) inw_8 (by decide) tyX7 tyX7_ok nmX7 rfl (tyX7_ok 20 (by decide)) rfl rfl ho hg (by simp [fl]) rfl rfl (fun b hb c => fl_si hb c) (fun _ _ => rfl) fs_820 kk
set_option maxRecDepth 20000 in
theorem pf_X7_85 {p : Program} {l : Launch} {e : Env} {R : Room} {s : State} {m : MethodId} {args : Array Value} {below : List Frame} {meth : Method} {c : Code} {d : Dp} {A : Nat → Prop} {Q : State → Prop} {nL : Nat} {σ : Sg} {k n pc : Nat} {lv : List (Nat × Value)} {st : List Value} {cc : ByteArray} {ret : Option FieldType} (E : Ev p s m args meth c RX7 cc nL ret d A) {o : Option Nat} {a : Nat} {x : Int32} (hd : decode cc pc = .ok (.putfield 85, 3)) (ho : o = some a) (hg : gc σ a = 9) (kk : Gk p l e R s m args below meth c d A Q nL (si σ 821 a x) k n (pc + 3) lv st) : Gk p l e R s m args below meth c d A Q nL σ k n pc lv (.int x :: va_rf o :: st) :=
  r_put (ci := 8) (j := 21) (T := TX7) (rf := "FrameTalkModel") (σ' := si σ 821 a x) (ty := tyX7 21) E hd wm_3_156 (fun _ h9 => h9) rfl (by decide) inw_8 (by decide) tyX7 tyX7_ok nmX7 rfl (tyX7_ok 21 (by decide)) rfl rfl ho hg (by simp [fl]) rfl rfl (fun b hb c => fl_si hb c) (fun _ _ => rfl) fs_821 kk
set_option maxRecDepth 20000 in
theorem cl_X7_88 {p : Program} {l : Launch} {e : Env} {R : Room} {s : State} {m : MethodId} {args : Array Value} {below : List Frame} {meth : Method} {c : Code} {d : Dp} {A : Nat → Prop} {Q : State → Prop} {nL : Nat} {σ : Sg} {k n pc : Nat} {lv : List (Nat × Value)} {cc : ByteArray} {ret : Option FieldType} (E : Ev p s m args meth c RX7 cc nL ret d A) {o : Option Nat} {b : Nat} {x1 : Int32} {x2 : Int32} {r : Int32} {rest : List Value} {σ1 : Sg} (hM : Mt l d yX7_fail cX7_fail 3 (some .int) 0 0 σ [.ref b, .int x1, .int x2] (some (.int r)) σ1 0 0) (hd : decode cc pc = .ok (.invokevirtual 88, 3)) (hR : 0 + 1 ≤ R.frames ∧ 8 + (3 + 11) + 0 ≤ R.locals) (hf : k + 0 ≤ R.cells ∧ n + 0 ≤ R.slots) (hcat : (rest.map fun v => v.category).sum ≤ 8) (ho : o = some b) (hg : gc σ b = 9) (kk : Gk p l e R s m args below meth c d A Q nL σ1 k n (pc + 3) lv (.int r :: rest)) : Gk p l e R s m args below meth c d A Q nL σ k n pc lv (.int x2 :: .int x1 :: va_rf o :: rest) :=
  r_cV (As := [.int x1, .int x2]) (rest := rest) (ci := 8) (nA := 2) E hM hd wm_4_10 wm_4_12 wm_p_35 wm_1_9 wm_4_13 rfl ⟨by decide, by decide, by decide +kernel⟩ rfl hR hf rfl (by decide) ho hg rfl hcat kk
set_option maxRecDepth 20000 in
theorem gf_X7_92 {p : Program} {l : Launch} {e : Env} {R : Room} {s : State} {m : MethodId} {args : Array Value} {below : List Frame} {meth : Method} {c : Code} {d : Dp} {A : Nat → Prop} {Q : State → Prop} {nL : Nat} {σ : Sg} {k n pc : Nat} {lv : List (Nat × Value)} {st : List Value} {cc : ByteArray} {ret : Option FieldType} (E : Ev p s m args meth c RX7 cc nL ret d A) {o : Option Nat} {a : Nat} {x : Int32} (hd : decode cc pc = .ok (.getfield 92, 3)) (ho : o = some a) (hg : gc σ a = 9) (hx : gi σ 822 a = x) (kk : Gk p l e R s m args below meth c d A Q nL σ k n (pc + 3) lv (.int x :: st)) : Gk p l e R s m args below meth c d A Q nL σ k n pc lv (va_rf o :: st) := by
  subst hx
  exact r_get (ci := 8) (j := 22) (T := TX7) (rf := "FrameTalkModel") E hd wm_3_157 (fun _ h9 => h9) rfl (by decide) inw_8 (by decide) ho hg rfl kk
set_option maxRecDepth 20000 in
theorem pf_X7_92 {p : Program} {l : Launch} {e : Env} {R : Room} {s : State} {m : MethodId} {args : Array Value} {below : List Frame} {meth : Method} {c : Code} {d : Dp} {A : Nat → Prop} {Q : State → Prop} {nL : Nat} {σ : Sg} {k n pc : Nat} {lv : List (Nat × Value)} {st : List Value} {cc : ByteArray} {ret : Option FieldType} (E : Ev p s m args meth c RX7 cc nL ret d A) {o : Option Nat} {a : Nat} {x : Int32} (hd : decode cc pc = .ok (.putfield 92, 3)) (ho : o = some a) (hg : gc σ a = 9) (kk : Gk p l e R s m args below meth c d A Q nL (si σ 822 a x) k n (pc + 3) lv st) : Gk p l e R s m args below meth c d A Q nL σ k n pc lv (.int x :: va_rf o :: st) :=
  r_put (ci := 8) (j := 22) (T := TX7) (rf := "FrameTalkModel") (σ' := si σ 822 a x) (ty := tyX7 22) E hd wm_3_157 (fun _ h9 => h9) rfl (by decide) inw_8 (by decide) tyX7 tyX7_ok nmX7 rfl (tyX7_ok 22 (by decide)) rfl rfl ho hg (by simp [fl]) rfl rfl (fun b hb c => fl_si hb c) (fun _ _ => rfl) fs_822 kk
set_option maxRecDepth 20000 in
theorem gf_X7_95 {p : Program} {l : Launch} {e : Env} {R : Room} {s : State} {m : MethodId} {args : Array Value} {below : List Frame} {meth : Method} {c : Code} {d : Dp} {A : Nat → Prop} {Q : State → Prop} {nL : Nat} {σ : Sg} {k n pc : Nat} {lv : List (Nat × Value)} {st : List Value} {cc : ByteArray} {ret : Option FieldType} (E : Ev p s m args meth c RX7 cc nL ret d A) {o : Option Nat} {a : Nat} {x : Int32} (hd : decode cc pc = .ok (.getfield 95, 3)) (ho : o = some a) (hg : gc σ a = 9) (hx : gi σ 823 a = x) (kk : Gk p l e R s m args below meth c d A Q nL σ k n (pc + 3) lv (.int x :: st)) : Gk p l e R s m args below meth c d A Q nL σ k n pc lv (va_rf o :: st) := by
  subst hx
  exact r_get (ci := 8) (j := 23) (T := TX7) (rf := "FrameTalkModel") E hd wm_3_158 (fun _ h9 => h9) rfl (by decide) inw_8 (by decide) ho hg rfl kk
set_option maxRecDepth 20000 in
theorem pf_X7_95 {p : Program} {l : Launch} {e : Env} {R : Room} {s : State} {m : MethodId} {args : Array Value} {below : List Frame} {meth : Method} {c : Code} {d : Dp} {A : Nat → Prop} {Q : State → Prop} {nL : Nat} {σ : Sg} {k n pc : Nat} {lv : List (Nat × Value)} {st : List Value} {cc : ByteArray} {ret : Option FieldType} (E : Ev p s m args meth c RX7 cc nL ret d A) {o : Option Nat} {a : Nat} {x : Int32} (hd : decode cc pc = .ok (.putfield 95, 3)) (ho : o = some a) (hg : gc σ a = 9) (kk : Gk p l e R s m args below meth c d A Q nL (si σ 823 a x) k n (pc + 3) lv st) : Gk p l e R s m args below meth c d A Q nL σ k n pc lv (.int x :: va_rf o :: st) :=
  r_put (ci := 8) (j := 23) (T := TX7) (rf := "FrameTalkModel") (σ' := si σ 823 a x) (ty := tyX7 23) E hd wm_3_158 (fun _ h9 => h9) rfl (by decide) inw_8 (by decide) tyX7 tyX7_ok nmX7 rfl (tyX7_ok 23 (by decide)) rfl rfl ho hg (by simp [fl]) rfl rfl (fun b hb c => fl_si hb c) (fun _ _ => rfl) fs_823 kk
set_option maxRecDepth 20000 in
theorem gf_X7_98 {p : Program} {l : Launch} {e : Env} {R : Room} {s : State} {m : MethodId} {args : Array Value} {below : List Frame} {meth : Method} {c : Code} {d : Dp} {A : Nat → Prop} {Q : State → Prop} {nL : Nat} {σ : Sg} {k n pc : Nat} {lv : List (Nat × Value)} {st : List Value} {cc : ByteArray} {ret : Option FieldType} (E : Ev p s m args meth c RX7 cc nL ret d A) {o : Option Nat} {a : Nat} {x : Int32} (hd : decode cc pc = .ok (.getfield 98, 3)) (ho : o = some a) (hg : gc σ a = 9) (hx : gi σ 818 a = x) (kk : Gk p l e R s m args below meth c d A Q nL σ k n (pc + 3) lv (.int x :: st)) : Gk p l e R s m args below meth c d A Q nL σ k n pc lv (va_rf o :: st) := by
  subst hx
  exact r_get (ci := 8) (j := 18) (T := TX7) (rf := "FrameTalkModel") E hd wm_3_153 (fun _ h9 => h9) rfl (by decide) inw_8 (by decide) ho hg rfl kk
set_option maxRecDepth 20000 in
theorem pf_X7_98 {p : Program} {l : Launch} {e : Env} {R : Room} {s : State} {m : MethodId} {args : Array Value} {below : List Frame} {meth : Method} {c : Code} {d : Dp} {A : Nat → Prop} {Q : State → Prop} {nL : Nat} {σ : Sg} {k n pc : Nat} {lv : List (Nat × Value)} {st : List Value} {cc : ByteArray} {ret : Option FieldType} (E : Ev p s m args meth c RX7 cc nL ret d A) {o : Option Nat} {a : Nat} {x : Int32} (hd : decode cc pc = .ok (.putfield 98, 3)) (ho : o = some a) (hg : gc σ a = 9) (kk : Gk p l e R s m args below meth c d A Q nL (si σ 818 a x) k n (pc + 3) lv st) : Gk p l e R s m args below meth c d A Q nL σ k n pc lv (.int x :: va_rf o :: st) :=
  r_put (ci := 8) (j := 18) (T := TX7) (rf := "FrameTalkModel") (σ' := si σ 818 a x) (ty := tyX7 18) E hd wm_3_153 (fun _ h9 => h9) rfl (by decide) inw_8 (by decide) tyX7 tyX7_ok nmX7 rfl (tyX7_ok 18 (by decide)) rfl rfl ho hg (by simp [fl]) rfl rfl (fun b hb c => fl_si hb c) (fun _ _ => rfl) fs_818 kk
set_option maxRecDepth 20000 in
theorem gf_X7_46 {p : Program} {l : Launch} {e : Env} {R : Room} {s : State} {m : MethodId} {args : Array Value} {below : List Frame} {meth : Method} {c : Code} {d : Dp} {A : Nat → Prop} {Q : State → Prop} {nL : Nat} {σ : Sg} {k n pc : Nat} {lv : List (Nat × Value)} {st : List Value} {cc : ByteArray} {ret : Option FieldType} (E : Ev p s m args meth c RX7 cc nL ret d A) {o : Option Nat} {a : Nat} {x : Option Nat} (hd : decode cc pc = .ok (.getfield 46, 3)) (ho : o = some a) (hg : gc σ a = 9) (hx : gp σ 814 a = x) (kk : Gk p l e R s m args below meth c d A Q nL σ k n (pc + 3) lv (va_rf x :: st)) : Gk p l e R s m args below meth c d A Q nL σ k n pc lv (va_rf o :: st) := by
  subst hx
  exact r_get (ci := 8) (j := 14) (T := TX7) (rf := "FrameTalkModel") E hd wm_3_149 (fun _ h9 => h9) rfl (by decide) inw_8 (by decide) ho hg rfl kk
set_option maxRecDepth 20000 in
theorem gf_X7_49 {p : Program} {l : Launch} {e : Env} {R : Room} {s : State} {m : MethodId} {args : Array Value} {below : List Frame} {meth : Method} {c : Code} {d : Dp} {A : Nat → Prop} {Q : State → Prop} {nL : Nat} {σ : Sg} {k n pc : Nat} {lv : List (Nat × Value)} {st : List Value} {cc : ByteArray} {ret : Option FieldType} (E : Ev p s m args meth c RX7 cc nL ret d A) {o : Option Nat} {a : Nat} {x : Option Nat} (hd : decode cc pc = .ok (.getfield 49, 3)) (ho : o = some a) (hg : gc σ a = 9) (hx : gp σ 815 a = x) (kk : Gk p l e R s m args below meth c d A Q nL σ k n (pc + 3) lv (va_rf x :: st)) : Gk p l e R s m args below meth c d A Q nL σ k n pc lv (va_rf o :: st) := by
  subst hx
  exact r_get (ci := 8) (j := 15) (T := TX7) (rf := "FrameTalkModel") E hd wm_3_150 (fun _ h9 => h9) rfl (by decide) inw_8 (by decide) ho hg rfl kk
set_option maxRecDepth 20000 in
theorem gf_X7_52 {p : Program} {l : Launch} {e : Env} {R : Room} {s : State} {m : MethodId} {args : Array Value} {below : List Frame} {meth : Method} {c : Code} {d : Dp} {A : Nat → Prop} {Q : State → Prop} {nL : Nat} {σ : Sg} {k n pc : Nat} {lv : List (Nat × Value)} {st : List Value} {cc : ByteArray} {ret : Option FieldType} (E : Ev p s m args meth c RX7 cc nL ret d A) {o : Option Nat} {a : Nat} {x : Option Nat} (hd : decode cc pc = .ok (.getfield 52, 3)) (ho : o = some a) (hg : gc σ a = 9) (hx : gp σ 816 a = x) (kk : Gk p l e R s m args below meth c d A Q nL σ k n (pc + 3) lv (va_rf x :: st)) : Gk p l e R s m args below meth c d A Q nL σ k n pc lv (va_rf o :: st) := by
  subst hx
  exact r_get (ci := 8) (j := 16) (T := TX7) (rf := "FrameTalkModel") E hd wm_3_151 (fun _ h9 => h9) rfl (by decide) inw_8 (by decide) ho hg rfl kk
set_option maxRecDepth 20000 in
theorem cl_X7_101 {p : Program} {l : Launch} {e : Env} {R : Room} {s : State} {m : MethodId} {args : Array Value} {below : List Frame} {meth : Method} {c : Code} {d : Dp} {A : Nat → Prop} {Q : State → Prop} {nL : Nat} {σ : Sg} {k n pc : Nat} {lv : List (Nat × Value)} {cc : ByteArray} {ret : Option FieldType} (E : Ev p s m args meth c RX7 cc nL ret d A) {o : Option Nat} {b : Nat} {x1 : Int32} {x2 : Int32} {r : Int32} {rest : List Value} {σ1 : Sg} (hM : Mt l d yX7_number cX7_number 3 (some .int) 0 0 σ [.ref b, .int x1, .int x2] (some (.int r)) σ1 0 0) (hd : decode cc pc = .ok (.invokevirtual 101, 3)) (hR : 0 + 1 ≤ R.frames ∧ 8 + (3 + 11) + 0 ≤ R.locals) (hf : k + 0 ≤ R.cells ∧ n + 0 ≤ R.slots) (hcat : (rest.map fun v => v.category).sum ≤ 8) (ho : o = some b) (hg : gc σ b = 9) (kk : Gk p l e R s m args below meth c d A Q nL σ1 k n (pc + 3) lv (.int r :: rest)) : Gk p l e R s m args below meth c d A Q nL σ k n pc lv (.int x2 :: .int x1 :: va_rf o :: rest) :=
  r_cV (As := [.int x1, .int x2]) (rest := rest) (ci := 8) (nA := 2) E hM hd wm_4_18 wm_4_20 wm_p_37 wm_1_9 wm_4_21 rfl ⟨by decide, by decide, by decide +kernel⟩ rfl hR hf rfl (by decide) ho hg rfl hcat kk
set_option maxRecDepth 20000 in
theorem cl_X7_104 {p : Program} {l : Launch} {e : Env} {R : Room} {s : State} {m : MethodId} {args : Array Value} {below : List Frame} {meth : Method} {c : Code} {d : Dp} {A : Nat → Prop} {Q : State → Prop} {nL : Nat} {σ : Sg} {k n pc : Nat} {lv : List (Nat × Value)} {cc : ByteArray} {ret : Option FieldType} (E : Ev p s m args meth c RX7 cc nL ret d A) {o : Option Nat} {b : Nat} {x1 : Int32}  {rest : List Value} {σ1 : Sg} (hM : Mt l d yX7_enter cX7_enter 3 none 1 22 σ [.ref b, .int x1] none σ1 0 0) (hd : decode cc pc = .ok (.invokevirtual 104, 3)) (hR : 1 + 1 ≤ R.frames ∧ 8 + (3 + 11) + 22 ≤ R.locals) (hf : k + 0 ≤ R.cells ∧ n + 0 ≤ R.slots) (hcat : (rest.map fun v => v.category).sum ≤ 8) (ho : o = some b) (hg : gc σ b = 9) (kk : Gk p l e R s m args below meth c d A Q nL σ1 k n (pc + 3) lv rest) : Gk p l e R s m args below meth c d A Q nL σ k n pc lv (.int x1 :: va_rf o :: rest) :=
  r_cV (As := [.int x1]) (rest := rest) (ci := 8) (nA := 1) E hM hd wm_4_6 wm_4_8 wm_p_34 wm_1_9 wm_4_9 rfl ⟨by decide, by decide, by decide +kernel⟩ rfl hR hf rfl (by decide) ho hg rfl hcat kk
set_option maxRecDepth 20000 in
theorem gf_X7_82 {p : Program} {l : Launch} {e : Env} {R : Room} {s : State} {m : MethodId} {args : Array Value} {below : List Frame} {meth : Method} {c : Code} {d : Dp} {A : Nat → Prop} {Q : State → Prop} {nL : Nat} {σ : Sg} {k n pc : Nat} {lv : List (Nat × Value)} {st : List Value} {cc : ByteArray} {ret : Option FieldType} (E : Ev p s m args meth c RX7 cc nL ret d A) {o : Option Nat} {a : Nat} {x : Int32} (hd : decode cc pc = .ok (.getfield 82, 3)) (ho : o = some a) (hg : gc σ a = 9) (hx : gi σ 820 a = x) (kk : Gk p l e R s m args below meth c d A Q nL σ k n (pc + 3) lv (.int x :: st)) : Gk p l e R s m args below meth c d A Q nL σ k n pc lv (va_rf o :: st) := by
  subst hx
  exact r_get (ci := 8) (j := 20) (T := TX7) (rf := "FrameTalkModel") E hd wm_3_155 (fun _ h9 => h9) rfl (by decide) inw_8 (by decide) ho hg rfl kk
set_option maxRecDepth 20000 in
theorem cl_X7_123 {p : Program} {l : Launch} {e : Env} {R : Room} {s : State} {m : MethodId} {args : Array Value} {below : List Frame} {meth : Method} {c : Code} {d : Dp} {A : Nat → Prop} {Q : State → Prop} {nL : Nat} {σ : Sg} {k n pc : Nat} {lv : List (Nat × Value)} {cc : ByteArray} {ret : Option FieldType} (E : Ev p s m args meth c RX7 cc nL ret d A) {o : Option Nat} {b : Nat} {x1 : Int64} {r : Int32} {rest : List Value} {σ1 : Sg} (hM : Mt l d yX7_num cX7_num 3 (some .int) 1 26 σ [.ref b, .long x1] (some (.int r)) σ1 0 0) (hd : decode cc pc = .ok (.invokevirtual 123, 3)) (hR : 1 + 1 ≤ R.frames ∧ 8 + (3 + 11) + 26 ≤ R.locals) (hf : k + 0 ≤ R.cells ∧ n + 0 ≤ R.slots) (hcat : (rest.map fun v => v.category).sum ≤ 8) (ho : o = some b) (hg : gc σ b = 9) (kk : Gk p l e R s m args below meth c d A Q nL σ1 k n (pc + 3) lv (.int r :: rest)) : Gk p l e R s m args below meth c d A Q nL σ k n pc lv (.long x1 :: va_rf o :: rest) :=
  r_cV (As := [.long x1]) (rest := rest) (ci := 8) (nA := 1) E hM hd wm_4_22 wm_4_24 wm_p_38 wm_1_9 wm_4_25 rfl ⟨by decide, by decide, by decide +kernel⟩ rfl hR hf rfl (by decide) ho hg rfl hcat kk
set_option maxRecDepth 20000 in
theorem cl_X7_127 {p : Program} {l : Launch} {e : Env} {R : Room} {s : State} {m : MethodId} {args : Array Value} {below : List Frame} {meth : Method} {c : Code} {d : Dp} {A : Nat → Prop} {Q : State → Prop} {nL : Nat} {σ : Sg} {k n pc : Nat} {lv : List (Nat × Value)} {cc : ByteArray} {ret : Option FieldType} (E : Ev p s m args meth c RX7 cc nL ret d A) {o : Option Nat} {b : Nat} {x1 : Int32} {x2 : Int32}  {rest : List Value} {σ1 : Sg} (hM : Mt l d yX7_begin cX7_begin 3 none 2 44 σ [.ref b, .int x1, .int x2] none σ1 0 0) (hd : decode cc pc = .ok (.invokevirtual 127, 3)) (hR : 2 + 1 ≤ R.frames ∧ 8 + (3 + 11) + 44 ≤ R.locals) (hf : k + 0 ≤ R.cells ∧ n + 0 ≤ R.slots) (hcat : (rest.map fun v => v.category).sum ≤ 8) (ho : o = some b) (hg : gc σ b = 9) (kk : Gk p l e R s m args below meth c d A Q nL σ1 k n (pc + 3) lv rest) : Gk p l e R s m args below meth c d A Q nL σ k n pc lv (.int x2 :: .int x1 :: va_rf o :: rest) :=
  r_cV (As := [.int x1, .int x2]) (rest := rest) (ci := 8) (nA := 2) E hM hd wm_4_30 wm_4_32 wm_p_40 wm_1_9 wm_4_33 rfl ⟨by decide, by decide, by decide +kernel⟩ rfl hR hf rfl (by decide) ho hg rfl hcat kk
set_option maxRecDepth 20000 in
theorem gf_X7_114 {p : Program} {l : Launch} {e : Env} {R : Room} {s : State} {m : MethodId} {args : Array Value} {below : List Frame} {meth : Method} {c : Code} {d : Dp} {A : Nat → Prop} {Q : State → Prop} {nL : Nat} {σ : Sg} {k n pc : Nat} {lv : List (Nat × Value)} {st : List Value} {cc : ByteArray} {ret : Option FieldType} (E : Ev p s m args meth c RX7 cc nL ret d A) {o : Option Nat} {a : Nat} {x : Int32} (hd : decode cc pc = .ok (.getfield 114, 3)) (ho : o = some a) (hg : gc σ a = 9) (hx : gi σ 819 a = x) (kk : Gk p l e R s m args below meth c d A Q nL σ k n (pc + 3) lv (.int x :: st)) : Gk p l e R s m args below meth c d A Q nL σ k n pc lv (va_rf o :: st) := by
  subst hx
  exact r_get (ci := 8) (j := 19) (T := TX7) (rf := "FrameTalkModel") E hd wm_3_154 (fun _ h9 => h9) rfl (by decide) inw_8 (by decide) ho hg rfl kk
set_option maxRecDepth 20000 in
theorem cl_X7_143 {p : Program} {l : Launch} {e : Env} {R : Room} {s : State} {m : MethodId} {args : Array Value} {below : List Frame} {meth : Method} {c : Code} {d : Dp} {A : Nat → Prop} {Q : State → Prop} {nL : Nat} {σ : Sg} {k n pc : Nat} {lv : List (Nat × Value)} {cc : ByteArray} {ret : Option FieldType} (E : Ev p s m args meth c RX7 cc nL ret d A) {o : Option Nat} {b : Nat} {x1 : Int32} {x2 : Int32} {x3 : Int32} {r : Int32} {rest : List Value} {σ1 : Sg} (hM : Mt l d yX7_is cX7_is 4 (some .boolean) 1 22 σ [.ref b, .int x1, .int x2, .int x3] (some (.int r)) σ1 0 0) (hd : decode cc pc = .ok (.invokevirtual 143, 3)) (hR : 1 + 1 ≤ R.frames ∧ 8 + (4 + 11) + 22 ≤ R.locals) (hf : k + 0 ≤ R.cells ∧ n + 0 ≤ R.slots) (hcat : (rest.map fun v => v.category).sum ≤ 8) (ho : o = some b) (hg : gc σ b = 9) (kk : Gk p l e R s m args below meth c d A Q nL σ1 k n (pc + 3) lv (.int r :: rest)) : Gk p l e R s m args below meth c d A Q nL σ k n pc lv (.int x3 :: .int x2 :: .int x1 :: va_rf o :: rest) :=
  r_cV (As := [.int x1, .int x2, .int x3]) (rest := rest) (ci := 8) (nA := 3) E hM hd wm_4_46 wm_4_48 wm_p_44 wm_1_9 wm_4_49 rfl ⟨by decide, by decide, by decide +kernel⟩ rfl hR hf rfl (by decide) ho hg rfl hcat kk
set_option maxRecDepth 20000 in
theorem cl_X7_131 {p : Program} {l : Launch} {e : Env} {R : Room} {s : State} {m : MethodId} {args : Array Value} {below : List Frame} {meth : Method} {c : Code} {d : Dp} {A : Nat → Prop} {Q : State → Prop} {nL : Nat} {σ : Sg} {k n pc : Nat} {lv : List (Nat × Value)} {cc : ByteArray} {ret : Option FieldType} (E : Ev p s m args meth c RX7 cc nL ret d A) {o : Option Nat} {b : Nat} {x1 : Int32}  {rest : List Value} {σ1 : Sg} (hM : Mt l d yX7_part0 cX7_part0 2 none 3 66 σ [.ref b, .int x1] none σ1 0 0) (hd : decode cc pc = .ok (.invokevirtual 131, 3)) (hR : 3 + 1 ≤ R.frames ∧ 8 + (2 + 11) + 66 ≤ R.locals) (hf : k + 0 ≤ R.cells ∧ n + 0 ≤ R.slots) (hcat : (rest.map fun v => v.category).sum ≤ 8) (ho : o = some b) (hg : gc σ b = 9) (kk : Gk p l e R s m args below meth c d A Q nL σ1 k n (pc + 3) lv rest) : Gk p l e R s m args below meth c d A Q nL σ k n pc lv (.int x1 :: va_rf o :: rest) :=
  r_cV (As := [.int x1]) (rest := rest) (ci := 8) (nA := 1) E hM hd wm_4_38 wm_4_40 wm_p_42 wm_1_9 wm_4_41 rfl ⟨by decide, by decide, by decide +kernel⟩ rfl hR hf rfl (by decide) ho hg rfl hcat kk
set_option maxRecDepth 20000 in
theorem gf_X7_55 {p : Program} {l : Launch} {e : Env} {R : Room} {s : State} {m : MethodId} {args : Array Value} {below : List Frame} {meth : Method} {c : Code} {d : Dp} {A : Nat → Prop} {Q : State → Prop} {nL : Nat} {σ : Sg} {k n pc : Nat} {lv : List (Nat × Value)} {st : List Value} {cc : ByteArray} {ret : Option FieldType} (E : Ev p s m args meth c RX7 cc nL ret d A) {o : Option Nat} {a : Nat} {x : Option Nat} (hd : decode cc pc = .ok (.getfield 55, 3)) (ho : o = some a) (hg : gc σ a = 9) (hx : gp σ 817 a = x) (kk : Gk p l e R s m args below meth c d A Q nL σ k n (pc + 3) lv (va_rf x :: st)) : Gk p l e R s m args below meth c d A Q nL σ k n pc lv (va_rf o :: st) := by
  subst hx
  exact r_get (ci := 8) (j := 17) (T := TX7) (rf := "FrameTalkModel") E hd wm_3_152 (fun _ h9 => h9) rfl (by decide) inw_8 (by decide) ho hg rfl kk
set_option maxRecDepth 20000 in
theorem pf_X7_114 {p : Program} {l : Launch} {e : Env} {R : Room} {s : State} {m : MethodId} {args : Array Value} {below : List Frame} {meth : Method} {c : Code} {d : Dp} {A : Nat → Prop} {Q : State → Prop} {nL : Nat} {σ : Sg} {k n pc : Nat} {lv : List (Nat × Value)} {st : List Value} {cc : ByteArray} {ret : Option FieldType} (E : Ev p s m args meth c RX7 cc nL ret d A) {o : Option Nat} {a : Nat} {x : Int32} (hd : decode cc pc = .ok (.putfield 114, 3)) (ho : o = some a) (hg : gc σ a = 9) (kk : Gk p l e R s m args below meth c d A Q nL (si σ 819 a x) k n (pc + 3) lv st) : Gk p l e R s m args below meth c d A Q nL σ k n pc lv (.int x :: va_rf o :: st) :=
  r_put (ci := 8) (j := 19) (T := TX7) (rf := "FrameTalkModel") (σ' := si σ 819 a x) (ty := tyX7 19) E hd wm_3_154 (fun _ h9 => h9) rfl (by decide) inw_8 (by decide) tyX7 tyX7_ok nmX7 rfl (tyX7_ok 19 (by decide)) rfl rfl ho hg (by simp [fl]) rfl rfl (fun b hb c => fl_si hb c) (fun _ _ => rfl) fs_819 kk
set_option maxRecDepth 20000 in
theorem cl_X7_161 {p : Program} {l : Launch} {e : Env} {R : Room} {s : State} {m : MethodId} {args : Array Value} {below : List Frame} {meth : Method} {c : Code} {d : Dp} {A : Nat → Prop} {Q : State → Prop} {nL : Nat} {σ : Sg} {k n pc : Nat} {lv : List (Nat × Value)} {cc : ByteArray} {ret : Option FieldType} (E : Ev p s m args meth c RX7 cc nL ret d A) {o : Option Nat} {b : Nat} {x1 : Int32} {x2 : Int32} {r : Int32} {rest : List Value} {σ1 : Sg} (hM : Mt l d yX7_noSlot cX7_noSlot 3 (some .boolean) 1 22 σ [.ref b, .int x1, .int x2] (some (.int r)) σ1 0 0) (hd : decode cc pc = .ok (.invokevirtual 161, 3)) (hR : 1 + 1 ≤ R.frames ∧ 8 + (3 + 11) + 22 ≤ R.locals) (hf : k + 0 ≤ R.cells ∧ n + 0 ≤ R.slots) (hcat : (rest.map fun v => v.category).sum ≤ 8) (ho : o = some b) (hg : gc σ b = 9) (kk : Gk p l e R s m args below meth c d A Q nL σ1 k n (pc + 3) lv (.int r :: rest)) : Gk p l e R s m args below meth c d A Q nL σ k n pc lv (.int x2 :: .int x1 :: va_rf o :: rest) :=
  r_cV (As := [.int x1, .int x2]) (rest := rest) (ci := 8) (nA := 2) E hM hd wm_4_66 wm_4_68 wm_p_49 wm_1_9 wm_4_69 rfl ⟨by decide, by decide, by decide +kernel⟩ rfl hR hf rfl (by decide) ho hg rfl hcat kk
set_option maxRecDepth 20000 in
theorem cl_X7_164 {p : Program} {l : Launch} {e : Env} {R : Room} {s : State} {m : MethodId} {args : Array Value} {below : List Frame} {meth : Method} {c : Code} {d : Dp} {A : Nat → Prop} {Q : State → Prop} {nL : Nat} {σ : Sg} {k n pc : Nat} {lv : List (Nat × Value)} {cc : ByteArray} {ret : Option FieldType} (E : Ev p s m args meth c RX7 cc nL ret d A) {o : Option Nat} {b : Nat} {x1 : Int32} {x2 : Int32} {x3 : Int64} {x4 : Int64} {r : Int32} {rest : List Value} {σ1 : Sg} (hM : Mt l d yX7_reckon cX7_reckon 7 (some .int) 2 48 σ [.ref b, .int x1, .int x2, .long x3, .long x4] (some (.int r)) σ1 0 0) (hd : decode cc pc = .ok (.invokevirtual 164, 3)) (hR : 2 + 1 ≤ R.frames ∧ 8 + (7 + 11) + 48 ≤ R.locals) (hf : k + 0 ≤ R.cells ∧ n + 0 ≤ R.slots) (hcat : (rest.map fun v => v.category).sum ≤ 8) (ho : o = some b) (hg : gc σ b = 9) (kk : Gk p l e R s m args below meth c d A Q nL σ1 k n (pc + 3) lv (.int r :: rest)) : Gk p l e R s m args below meth c d A Q nL σ k n pc lv (.long x4 :: .long x3 :: .int x2 :: .int x1 :: va_rf o :: rest) :=
  r_cV (As := [.int x1, .int x2, .long x3, .long x4]) (rest := rest) (ci := 8) (nA := 4) E hM hd wm_4_74 wm_4_76 wm_p_51 wm_1_9 wm_4_77 rfl ⟨by decide, by decide, by decide +kernel⟩ rfl hR hf rfl (by decide) ho hg rfl hcat kk
set_option maxRecDepth 20000 in
theorem gf_X7_176 {p : Program} {l : Launch} {e : Env} {R : Room} {s : State} {m : MethodId} {args : Array Value} {below : List Frame} {meth : Method} {c : Code} {d : Dp} {A : Nat → Prop} {Q : State → Prop} {nL : Nat} {σ : Sg} {k n pc : Nat} {lv : List (Nat × Value)} {st : List Value} {cc : ByteArray} {ret : Option FieldType} (E : Ev p s m args meth c RX7 cc nL ret d A) {o : Option Nat} {a : Nat} {x : Int32} (hd : decode cc pc = .ok (.getfield 176, 3)) (ho : o = some a) (hg : gc σ a = 9) (hx : gi σ 811 a = x) (kk : Gk p l e R s m args below meth c d A Q nL σ k n (pc + 3) lv (.int x :: st)) : Gk p l e R s m args below meth c d A Q nL σ k n pc lv (va_rf o :: st) := by
  subst hx
  exact r_get (ci := 8) (j := 11) (T := TX7) (rf := "FrameTalkModel") E hd wm_3_146 (fun _ h9 => h9) rfl (by decide) inw_8 (by decide) ho hg rfl kk
set_option maxRecDepth 20000 in
theorem pf_X7_176 {p : Program} {l : Launch} {e : Env} {R : Room} {s : State} {m : MethodId} {args : Array Value} {below : List Frame} {meth : Method} {c : Code} {d : Dp} {A : Nat → Prop} {Q : State → Prop} {nL : Nat} {σ : Sg} {k n pc : Nat} {lv : List (Nat × Value)} {st : List Value} {cc : ByteArray} {ret : Option FieldType} (E : Ev p s m args meth c RX7 cc nL ret d A) {o : Option Nat} {a : Nat} {x : Int32} (hd : decode cc pc = .ok (.putfield 176, 3)) (ho : o = some a) (hg : gc σ a = 9) (kk : Gk p l e R s m args below meth c d A Q nL (si σ 811 a x) k n (pc + 3) lv st) : Gk p l e R s m args below meth c d A Q nL σ k n pc lv (.int x :: va_rf o :: st) :=
  r_put (ci := 8) (j := 11) (T := TX7) (rf := "FrameTalkModel") (σ' := si σ 811 a x) (ty := tyX7 11) E hd wm_3_146 (fun _ h9 => h9) rfl (by decide) inw_8 (by decide) tyX7 tyX7_ok nmX7 rfl (tyX7_ok 11 (by decide)) rfl rfl ho hg (by simp [fl]) rfl rfl (fun b hb c => fl_si hb c) (fun _ _ => rfl) fs_811 kk
set_option maxRecDepth 20000 in
theorem gf_X7_36 {p : Program} {l : Launch} {e : Env} {R : Room} {s : State} {m : MethodId} {args : Array Value} {below : List Frame} {meth : Method} {c : Code} {d : Dp} {A : Nat → Prop} {Q : State → Prop} {nL : Nat} {σ : Sg} {k n pc : Nat} {lv : List (Nat × Value)} {st : List Value} {cc : ByteArray} {ret : Option FieldType} (E : Ev p s m args meth c RX7 cc nL ret d A) {o : Option Nat} {a : Nat} {x : Option Nat} (hd : decode cc pc = .ok (.getfield 36, 3)) (ho : o = some a) (hg : gc σ a = 9) (hx : gp σ 810 a = x) (kk : Gk p l e R s m args below meth c d A Q nL σ k n (pc + 3) lv (va_rf x :: st)) : Gk p l e R s m args below meth c d A Q nL σ k n pc lv (va_rf o :: st) := by
  subst hx
  exact r_get (ci := 8) (j := 10) (T := TX7) (rf := "FrameTalkModel") E hd wm_3_145 (fun _ h9 => h9) rfl (by decide) inw_8 (by decide) ho hg rfl kk
set_option maxRecDepth 20000 in
theorem cl_X7_170 {p : Program} {l : Launch} {e : Env} {R : Room} {s : State} {m : MethodId} {args : Array Value} {below : List Frame} {meth : Method} {c : Code} {d : Dp} {A : Nat → Prop} {Q : State → Prop} {nL : Nat} {σ : Sg} {k n pc : Nat} {lv : List (Nat × Value)} {cc : ByteArray} {ret : Option FieldType} (E : Ev p s m args meth c RX7 cc nL ret d A) {o : Option Nat} {b : Nat} {x1 : Int32} {x2 : Int32} {r : Int32} {rest : List Value} {σ1 : Sg} (hM : Mt l d yX7_newRow cX7_newRow 6 (some .int) 1 26 σ [.ref b, .int x1, .int x2] (some (.int r)) σ1 0 0) (hd : decode cc pc = .ok (.invokevirtual 170, 3)) (hR : 1 + 1 ≤ R.frames ∧ 8 + (6 + 11) + 26 ≤ R.locals) (hf : k + 0 ≤ R.cells ∧ n + 0 ≤ R.slots) (hcat : (rest.map fun v => v.category).sum ≤ 8) (ho : o = some b) (hg : gc σ b = 9) (kk : Gk p l e R s m args below meth c d A Q nL σ1 k n (pc + 3) lv (.int r :: rest)) : Gk p l e R s m args below meth c d A Q nL σ k n pc lv (.int x2 :: .int x1 :: va_rf o :: rest) :=
  r_cV (As := [.int x1, .int x2]) (rest := rest) (ci := 8) (nA := 2) E hM hd wm_4_83 wm_4_85 wm_p_53 wm_1_9 wm_4_86 rfl ⟨by decide, by decide, by decide +kernel⟩ rfl hR hf rfl (by decide) ho hg rfl hcat kk
set_option maxRecDepth 20000 in
theorem cl_X7_173 {p : Program} {l : Launch} {e : Env} {R : Room} {s : State} {m : MethodId} {args : Array Value} {below : List Frame} {meth : Method} {c : Code} {d : Dp} {A : Nat → Prop} {Q : State → Prop} {nL : Nat} {σ : Sg} {k n pc : Nat} {lv : List (Nat × Value)} {cc : ByteArray} {ret : Option FieldType} (E : Ev p s m args meth c RX7 cc nL ret d A) {o : Option Nat} {b : Nat} {x1 : Int32} {x2 : Int32} {x3 : Int32} {x4 : Int32} {r : Int32} {rest : List Value} {σ1 : Sg} (hM : Mt l d yX7_inRow cX7_inRow 7 (some .int) 1 22 σ [.ref b, .int x1, .int x2, .int x3, .int x4] (some (.int r)) σ1 0 0) (hd : decode cc pc = .ok (.invokevirtual 173, 3)) (hR : 1 + 1 ≤ R.frames ∧ 8 + (7 + 11) + 22 ≤ R.locals) (hf : k + 0 ≤ R.cells ∧ n + 0 ≤ R.slots) (hcat : (rest.map fun v => v.category).sum ≤ 8) (ho : o = some b) (hg : gc σ b = 9) (kk : Gk p l e R s m args below meth c d A Q nL σ1 k n (pc + 3) lv (.int r :: rest)) : Gk p l e R s m args below meth c d A Q nL σ k n pc lv (.int x4 :: .int x3 :: .int x2 :: .int x1 :: va_rf o :: rest) :=
  r_cV (As := [.int x1, .int x2, .int x3, .int x4]) (rest := rest) (ci := 8) (nA := 4) E hM hd wm_4_87 wm_4_89 wm_p_54 wm_1_9 wm_4_90 rfl ⟨by decide, by decide, by decide +kernel⟩ rfl hR hf rfl (by decide) ho hg rfl hcat kk
set_option maxRecDepth 20000 in
theorem gf_X7_42 {p : Program} {l : Launch} {e : Env} {R : Room} {s : State} {m : MethodId} {args : Array Value} {below : List Frame} {meth : Method} {c : Code} {d : Dp} {A : Nat → Prop} {Q : State → Prop} {nL : Nat} {σ : Sg} {k n pc : Nat} {lv : List (Nat × Value)} {st : List Value} {cc : ByteArray} {ret : Option FieldType} (E : Ev p s m args meth c RX7 cc nL ret d A) {o : Option Nat} {a : Nat} {x : Int32} (hd : decode cc pc = .ok (.getfield 42, 3)) (ho : o = some a) (hg : gc σ a = 9) (hx : gi σ 813 a = x) (kk : Gk p l e R s m args below meth c d A Q nL σ k n (pc + 3) lv (.int x :: st)) : Gk p l e R s m args below meth c d A Q nL σ k n pc lv (va_rf o :: st) := by
  subst hx
  exact r_get (ci := 8) (j := 13) (T := TX7) (rf := "FrameTalkModel") E hd wm_3_148 (fun _ h9 => h9) rfl (by decide) inw_8 (by decide) ho hg rfl kk
set_option maxRecDepth 20000 in
theorem cl_X7_158 {p : Program} {l : Launch} {e : Env} {R : Room} {s : State} {m : MethodId} {args : Array Value} {below : List Frame} {meth : Method} {c : Code} {d : Dp} {A : Nat → Prop} {Q : State → Prop} {nL : Nat} {σ : Sg} {k n pc : Nat} {lv : List (Nat × Value)} {cc : ByteArray} {ret : Option FieldType} (E : Ev p s m args meth c RX7 cc nL ret d A) {o : Option Nat} {b : Nat} {x1 : Int32} {x2 : Int32} {x3 : Int32} {x4 : Int32} {r : Int32} {rest : List Value} {σ1 : Sg} (hM : Mt l d yX7_larger cX7_larger 5 (some .int) 2 51 σ [.ref b, .int x1, .int x2, .int x3, .int x4] (some (.int r)) σ1 0 0) (hd : decode cc pc = .ok (.invokevirtual 158, 3)) (hR : 2 + 1 ≤ R.frames ∧ 8 + (5 + 11) + 51 ≤ R.locals) (hf : k + 0 ≤ R.cells ∧ n + 0 ≤ R.slots) (hcat : (rest.map fun v => v.category).sum ≤ 8) (ho : o = some b) (hg : gc σ b = 9) (kk : Gk p l e R s m args below meth c d A Q nL σ1 k n (pc + 3) lv (.int r :: rest)) : Gk p l e R s m args below meth c d A Q nL σ k n pc lv (.int x4 :: .int x3 :: .int x2 :: .int x1 :: va_rf o :: rest) :=
  r_cV (As := [.int x1, .int x2, .int x3, .int x4]) (rest := rest) (ci := 8) (nA := 4) E hM hd wm_4_79 wm_4_81 wm_p_52 wm_1_9 wm_4_82 rfl ⟨by decide, by decide, by decide +kernel⟩ rfl hR hf rfl (by decide) ho hg rfl hcat kk
set_option maxRecDepth 20000 in
theorem cl_X7_154 {p : Program} {l : Launch} {e : Env} {R : Room} {s : State} {m : MethodId} {args : Array Value} {below : List Frame} {meth : Method} {c : Code} {d : Dp} {A : Nat → Prop} {Q : State → Prop} {nL : Nat} {σ : Sg} {k n pc : Nat} {lv : List (Nat × Value)} {cc : ByteArray} {ret : Option FieldType} (E : Ev p s m args meth c RX7 cc nL ret d A) {o : Option Nat} {b : Nat} {x1 : Int32} {x2 : Int32} {x3 : Int32} {r : Int32} {rest : List Value} {σ1 : Sg} (hM : Mt l d yX7_send cX7_send 6 (some .int) 3 74 σ [.ref b, .int x1, .int x2, .int x3] (some (.int r)) σ1 0 0) (hd : decode cc pc = .ok (.invokevirtual 154, 3)) (hR : 3 + 1 ≤ R.frames ∧ 8 + (6 + 11) + 74 ≤ R.locals) (hf : k + 0 ≤ R.cells ∧ n + 0 ≤ R.slots) (hcat : (rest.map fun v => v.category).sum ≤ 8) (ho : o = some b) (hg : gc σ b = 9) (kk : Gk p l e R s m args below meth c d A Q nL σ1 k n (pc + 3) lv (.int r :: rest)) : Gk p l e R s m args below meth c d A Q nL σ k n pc lv (.int x3 :: .int x2 :: .int x1 :: va_rf o :: rest) :=
  r_cV (As := [.int x1, .int x2, .int x3]) (rest := rest) (ci := 8) (nA := 3) E hM hd wm_4_70 wm_4_72 wm_p_50 wm_1_9 wm_4_73 rfl ⟨by decide, by decide, by decide +kernel⟩ rfl hR hf rfl (by decide) ho hg rfl hcat kk
set_option maxRecDepth 20000 in
theorem cl_X7_151 {p : Program} {l : Launch} {e : Env} {R : Room} {s : State} {m : MethodId} {args : Array Value} {below : List Frame} {meth : Method} {c : Code} {d : Dp} {A : Nat → Prop} {Q : State → Prop} {nL : Nat} {σ : Sg} {k n pc : Nat} {lv : List (Nat × Value)} {cc : ByteArray} {ret : Option FieldType} (E : Ev p s m args meth c RX7 cc nL ret d A) {o : Option Nat} {b : Nat} {x1 : Int32} {x2 : Int32} {x3 : Int32} {x4 : Int32} {r : Int32} {rest : List Value} {σ1 : Sg} (hM : Mt l d yX7_simple cX7_simple 5 (some .int) 2 48 σ [.ref b, .int x1, .int x2, .int x3, .int x4] (some (.int r)) σ1 0 0) (hd : decode cc pc = .ok (.invokevirtual 151, 3)) (hR : 2 + 1 ≤ R.frames ∧ 8 + (5 + 11) + 48 ≤ R.locals) (hf : k + 0 ≤ R.cells ∧ n + 0 ≤ R.slots) (hcat : (rest.map fun v => v.category).sum ≤ 8) (ho : o = some b) (hg : gc σ b = 9) (kk : Gk p l e R s m args below meth c d A Q nL σ1 k n (pc + 3) lv (.int r :: rest)) : Gk p l e R s m args below meth c d A Q nL σ k n pc lv (.int x4 :: .int x3 :: .int x2 :: .int x1 :: va_rf o :: rest) :=
  r_cV (As := [.int x1, .int x2, .int x3, .int x4]) (rest := rest) (ci := 8) (nA := 4) E hM hd wm_4_62 wm_4_64 wm_p_48 wm_1_9 wm_4_65 rfl ⟨by decide, by decide, by decide +kernel⟩ rfl hR hf rfl (by decide) ho hg rfl hcat kk
set_option maxRecDepth 20000 in
theorem cl_X7_147 {p : Program} {l : Launch} {e : Env} {R : Room} {s : State} {m : MethodId} {args : Array Value} {below : List Frame} {meth : Method} {c : Code} {d : Dp} {A : Nat → Prop} {Q : State → Prop} {nL : Nat} {σ : Sg} {k n pc : Nat} {lv : List (Nat × Value)} {cc : ByteArray} {ret : Option FieldType} (E : Ev p s m args meth c RX7 cc nL ret d A) {o : Option Nat} {b : Nat} {x1 : Int32} {x2 : Int32} {x3 : Int32} {x4 : Int32} {r : Int32} {rest : List Value} {σ1 : Sg} (hM : Mt l d yX7_act cX7_act 5 (some .int) 4 99 σ [.ref b, .int x1, .int x2, .int x3, .int x4] (some (.int r)) σ1 0 0) (hd : decode cc pc = .ok (.invokevirtual 147, 3)) (hR : 4 + 1 ≤ R.frames ∧ 8 + (5 + 11) + 99 ≤ R.locals) (hf : k + 0 ≤ R.cells ∧ n + 0 ≤ R.slots) (hcat : (rest.map fun v => v.category).sum ≤ 8) (ho : o = some b) (hg : gc σ b = 9) (kk : Gk p l e R s m args below meth c d A Q nL σ1 k n (pc + 3) lv (.int r :: rest)) : Gk p l e R s m args below meth c d A Q nL σ k n pc lv (.int x4 :: .int x3 :: .int x2 :: .int x1 :: va_rf o :: rest) :=
  r_cV (As := [.int x1, .int x2, .int x3, .int x4]) (rest := rest) (ci := 8) (nA := 4) E hM hd wm_4_58 wm_4_60 wm_p_47 wm_1_9 wm_4_61 rfl ⟨by decide, by decide, by decide +kernel⟩ rfl hR hf rfl (by decide) ho hg rfl hcat kk
set_option maxRecDepth 20000 in
theorem cl_X7_140 {p : Program} {l : Launch} {e : Env} {R : Room} {s : State} {m : MethodId} {args : Array Value} {below : List Frame} {meth : Method} {c : Code} {d : Dp} {A : Nat → Prop} {Q : State → Prop} {nL : Nat} {σ : Sg} {k n pc : Nat} {lv : List (Nat × Value)} {cc : ByteArray} {ret : Option FieldType} (E : Ev p s m args meth c RX7 cc nL ret d A) {o : Option Nat} {b : Nat} {x1 : Int32}  {rest : List Value} {σ1 : Sg} (hM : Mt l d yX7_eager cX7_eager 5 none 5 123 σ [.ref b, .int x1] none σ1 0 0) (hd : decode cc pc = .ok (.invokevirtual 140, 3)) (hR : 5 + 1 ≤ R.frames ∧ 8 + (5 + 11) + 123 ≤ R.locals) (hf : k + 0 ≤ R.cells ∧ n + 0 ≤ R.slots) (hcat : (rest.map fun v => v.category).sum ≤ 8) (ho : o = some b) (hg : gc σ b = 9) (kk : Gk p l e R s m args below meth c d A Q nL σ1 k n (pc + 3) lv rest) : Gk p l e R s m args below meth c d A Q nL σ k n pc lv (.int x1 :: va_rf o :: rest) :=
  r_cV (As := [.int x1]) (rest := rest) (ci := 8) (nA := 1) E hM hd wm_4_54 wm_4_56 wm_p_46 wm_1_9 wm_4_57 rfl ⟨by decide, by decide, by decide +kernel⟩ rfl hR hf rfl (by decide) ho hg rfl hcat kk
set_option maxRecDepth 20000 in
theorem cl_X7_137 {p : Program} {l : Launch} {e : Env} {R : Room} {s : State} {m : MethodId} {args : Array Value} {below : List Frame} {meth : Method} {c : Code} {d : Dp} {A : Nat → Prop} {Q : State → Prop} {nL : Nat} {σ : Sg} {k n pc : Nat} {lv : List (Nat × Value)} {cc : ByteArray} {ret : Option FieldType} (E : Ev p s m args meth c RX7 cc nL ret d A) {o : Option Nat} {b : Nat} {x1 : Int32}  {rest : List Value} {σ1 : Sg} (hM : Mt l d yX7_again cX7_again 2 none 4 87 σ [.ref b, .int x1] none σ1 0 0) (hd : decode cc pc = .ok (.invokevirtual 137, 3)) (hR : 4 + 1 ≤ R.frames ∧ 8 + (2 + 11) + 87 ≤ R.locals) (hf : k + 0 ≤ R.cells ∧ n + 0 ≤ R.slots) (hcat : (rest.map fun v => v.category).sum ≤ 8) (ho : o = some b) (hg : gc σ b = 9) (kk : Gk p l e R s m args below meth c d A Q nL σ1 k n (pc + 3) lv rest) : Gk p l e R s m args below meth c d A Q nL σ k n pc lv (.int x1 :: va_rf o :: rest) :=
  r_cV (As := [.int x1]) (rest := rest) (ci := 8) (nA := 1) E hM hd wm_4_50 wm_4_52 wm_p_45 wm_1_9 wm_4_53 rfl ⟨by decide, by decide, by decide +kernel⟩ rfl hR hf rfl (by decide) ho hg rfl hcat kk
set_option maxRecDepth 20000 in
theorem cl_X7_134 {p : Program} {l : Launch} {e : Env} {R : Room} {s : State} {m : MethodId} {args : Array Value} {below : List Frame} {meth : Method} {c : Code} {d : Dp} {A : Nat → Prop} {Q : State → Prop} {nL : Nat} {σ : Sg} {k n pc : Nat} {lv : List (Nat × Value)} {cc : ByteArray} {ret : Option FieldType} (E : Ev p s m args meth c RX7 cc nL ret d A) {o : Option Nat} {b : Nat} {x1 : Int32}  {rest : List Value} {σ1 : Sg} (hM : Mt l d yX7_choose cX7_choose 2 none 4 87 σ [.ref b, .int x1] none σ1 0 0) (hd : decode cc pc = .ok (.invokevirtual 134, 3)) (hR : 4 + 1 ≤ R.frames ∧ 8 + (2 + 11) + 87 ≤ R.locals) (hf : k + 0 ≤ R.cells ∧ n + 0 ≤ R.slots) (hcat : (rest.map fun v => v.category).sum ≤ 8) (ho : o = some b) (hg : gc σ b = 9) (kk : Gk p l e R s m args below meth c d A Q nL σ1 k n (pc + 3) lv rest) : Gk p l e R s m args below meth c d A Q nL σ k n pc lv (.int x1 :: va_rf o :: rest) :=
  r_cV (As := [.int x1]) (rest := rest) (ci := 8) (nA := 1) E hM hd wm_4_42 wm_4_44 wm_p_43 wm_1_9 wm_4_45 rfl ⟨by decide, by decide, by decide +kernel⟩ rfl hR hf rfl (by decide) ho hg rfl hcat kk
set_option maxRecDepth 20000 in
theorem pf_X7_108 {p : Program} {l : Launch} {e : Env} {R : Room} {s : State} {m : MethodId} {args : Array Value} {below : List Frame} {meth : Method} {c : Code} {d : Dp} {A : Nat → Prop} {Q : State → Prop} {nL : Nat} {σ : Sg} {k n pc : Nat} {lv : List (Nat × Value)} {st : List Value} {cc : ByteArray} {ret : Option FieldType} (E : Ev p s m args meth c RX7 cc nL ret d A) {o : Option Nat} {a : Nat} {x : Int32} (hd : decode cc pc = .ok (.putfield 108, 3)) (ho : o = some a) (hg : gc σ a = 9) (kk : Gk p l e R s m args below meth c d A Q nL (si σ 826 a x) k n (pc + 3) lv st) : Gk p l e R s m args below meth c d A Q nL σ k n pc lv (.int x :: va_rf o :: st) :=
  r_put (ci := 8) (j := 26) (T := TX7) (rf := "FrameTalkModel") (σ' := si σ 826 a x) (ty := tyX7 26) E hd wm_3_161 (fun _ h9 => h9) rfl (by decide) inw_8 (by decide) tyX7 tyX7_ok nmX7 rfl (tyX7_ok 26 (by decide)) rfl rfl ho hg (by simp [fl]) rfl rfl (fun b hb c => fl_si hb c) (fun _ _ => rfl) fs_826 kk
set_option maxRecDepth 20000 in
theorem gf_X7_111 {p : Program} {l : Launch} {e : Env} {R : Room} {s : State} {m : MethodId} {args : Array Value} {below : List Frame} {meth : Method} {c : Code} {d : Dp} {A : Nat → Prop} {Q : State → Prop} {nL : Nat} {σ : Sg} {k n pc : Nat} {lv : List (Nat × Value)} {st : List Value} {cc : ByteArray} {ret : Option FieldType} (E : Ev p s m args meth c RX7 cc nL ret d A) {o : Option Nat} {a : Nat} {x : Int32} (hd : decode cc pc = .ok (.getfield 111, 3)) (ho : o = some a) (hg : gc σ a = 9) (hx : gi σ 824 a = x) (kk : Gk p l e R s m args below meth c d A Q nL σ k n (pc + 3) lv (.int x :: st)) : Gk p l e R s m args below meth c d A Q nL σ k n pc lv (va_rf o :: st) := by
  subst hx
  exact r_get (ci := 8) (j := 24) (T := TX7) (rf := "FrameTalkModel") E hd wm_3_159 (fun _ h9 => h9) rfl (by decide) inw_8 (by decide) ho hg rfl kk
set_option maxRecDepth 20000 in
theorem pf_X7_111 {p : Program} {l : Launch} {e : Env} {R : Room} {s : State} {m : MethodId} {args : Array Value} {below : List Frame} {meth : Method} {c : Code} {d : Dp} {A : Nat → Prop} {Q : State → Prop} {nL : Nat} {σ : Sg} {k n pc : Nat} {lv : List (Nat × Value)} {st : List Value} {cc : ByteArray} {ret : Option FieldType} (E : Ev p s m args meth c RX7 cc nL ret d A) {o : Option Nat} {a : Nat} {x : Int32} (hd : decode cc pc = .ok (.putfield 111, 3)) (ho : o = some a) (hg : gc σ a = 9) (kk : Gk p l e R s m args below meth c d A Q nL (si σ 824 a x) k n (pc + 3) lv st) : Gk p l e R s m args below meth c d A Q nL σ k n pc lv (.int x :: va_rf o :: st) :=
  r_put (ci := 8) (j := 24) (T := TX7) (rf := "FrameTalkModel") (σ' := si σ 824 a x) (ty := tyX7 24) E hd wm_3_159 (fun _ h9 => h9) rfl (by decide) inw_8 (by decide) tyX7 tyX7_ok nmX7 rfl (tyX7_ok 24 (by decide)) rfl rfl ho hg (by simp [fl]) rfl rfl (fun b hb c => fl_si hb c) (fun _ _ => rfl) fs_824 kk
set_option maxRecDepth 20000 in
theorem gf_X7_85 {p : Program} {l : Launch} {e : Env} {R : Room} {s : State} {m : MethodId} {args : Array Value} {below : List Frame} {meth : Method} {c : Code} {d : Dp} {A : Nat → Prop} {Q : State → Prop} {nL : Nat} {σ : Sg} {k n pc : Nat} {lv : List (Nat × Value)} {st : List Value} {cc : ByteArray} {ret : Option FieldType} (E : Ev p s m args meth c RX7 cc nL ret d A) {o : Option Nat} {a : Nat} {x : Int32} (hd : decode cc pc = .ok (.getfield 85, 3)) (ho : o = some a) (hg : gc σ a = 9) (hx : gi σ 821 a = x) (kk : Gk p l e R s m args below meth c d A Q nL σ k n (pc + 3) lv (.int x :: st)) : Gk p l e R s m args below meth c d A Q nL σ k n pc lv (va_rf o :: st) := by
  subst hx
  exact r_get (ci := 8) (j := 21) (T := TX7) (rf := "FrameTalkModel") E hd wm_3_156 (fun _ h9 => h9) rfl (by decide) inw_8 (by decide) ho hg rfl kk
set_option maxRecDepth 20000 in
theorem cl_X7_120 {p : Program} {l : Launch} {e : Env} {R : Room} {s : State} {m : MethodId} {args : Array Value} {below : List Frame} {meth : Method} {c : Code} {d : Dp} {A : Nat → Prop} {Q : State → Prop} {nL : Nat} {σ : Sg} {k n pc : Nat} {lv : List (Nat × Value)} {cc : ByteArray} {ret : Option FieldType} (E : Ev p s m args meth c RX7 cc nL ret d A) {o : Option Nat} {b : Nat} {x1 : Int32}  {rest : List Value} {σ1 : Sg} (hM : Mt l d yX7_forward cX7_forward 2 none 6 147 σ [.ref b, .int x1] none σ1 0 0) (hd : decode cc pc = .ok (.invokevirtual 120, 3)) (hR : 6 + 1 ≤ R.frames ∧ 8 + (2 + 11) + 147 ≤ R.locals) (hf : k + 0 ≤ R.cells ∧ n + 0 ≤ R.slots) (hcat : (rest.map fun v => v.category).sum ≤ 8) (ho : o = some b) (hg : gc σ b = 9) (kk : Gk p l e R s m args below meth c d A Q nL σ1 k n (pc + 3) lv rest) : Gk p l e R s m args below meth c d A Q nL σ k n pc lv (.int x1 :: va_rf o :: rest) :=
  r_cV (As := [.int x1]) (rest := rest) (ci := 8) (nA := 1) E hM hd wm_4_34 wm_4_36 wm_p_41 wm_1_9 wm_4_37 rfl ⟨by decide, by decide, by decide +kernel⟩ rfl hR hf rfl (by decide) ho hg rfl hcat kk
set_option maxRecDepth 20000 in
theorem cl_X7_117 {p : Program} {l : Launch} {e : Env} {R : Room} {s : State} {m : MethodId} {args : Array Value} {below : List Frame} {meth : Method} {c : Code} {d : Dp} {A : Nat → Prop} {Q : State → Prop} {nL : Nat} {σ : Sg} {k n pc : Nat} {lv : List (Nat × Value)} {cc : ByteArray} {ret : Option FieldType} (E : Ev p s m args meth c RX7 cc nL ret d A) {o : Option Nat} {b : Nat} {x1 : Int32}  {rest : List Value} {σ1 : Sg} (hM : Mt l d yX7_outward cX7_outward 2 none 3 66 σ [.ref b, .int x1] none σ1 0 0) (hd : decode cc pc = .ok (.invokevirtual 117, 3)) (hR : 3 + 1 ≤ R.frames ∧ 8 + (2 + 11) + 66 ≤ R.locals) (hf : k + 0 ≤ R.cells ∧ n + 0 ≤ R.slots) (hcat : (rest.map fun v => v.category).sum ≤ 8) (ho : o = some b) (hg : gc σ b = 9) (kk : Gk p l e R s m args below meth c d A Q nL σ1 k n (pc + 3) lv rest) : Gk p l e R s m args below meth c d A Q nL σ k n pc lv (.int x1 :: va_rf o :: rest) :=
  r_cV (As := [.int x1]) (rest := rest) (ci := 8) (nA := 1) E hM hd wm_4_14 wm_4_16 wm_p_36 wm_1_9 wm_4_17 rfl ⟨by decide, by decide, by decide +kernel⟩ rfl hR hf rfl (by decide) ho hg rfl hcat kk
set_option maxRecDepth 20000 in
theorem gf_X7_58 {p : Program} {l : Launch} {e : Env} {R : Room} {s : State} {m : MethodId} {args : Array Value} {below : List Frame} {meth : Method} {c : Code} {d : Dp} {A : Nat → Prop} {Q : State → Prop} {nL : Nat} {σ : Sg} {k n pc : Nat} {lv : List (Nat × Value)} {st : List Value} {cc : ByteArray} {ret : Option FieldType} (E : Ev p s m args meth c RX7 cc nL ret d A) {o : Option Nat} {a : Nat} {x : Int32} (hd : decode cc pc = .ok (.getfield 58, 3)) (ho : o = some a) (hg : gc σ a = 9) (hx : gi σ 825 a = x) (kk : Gk p l e R s m args below meth c d A Q nL σ k n (pc + 3) lv (.int x :: st)) : Gk p l e R s m args below meth c d A Q nL σ k n pc lv (va_rf o :: st) := by
  subst hx
  exact r_get (ci := 8) (j := 25) (T := TX7) (rf := "FrameTalkModel") E hd wm_3_160 (fun _ h9 => h9) rfl (by decide) inw_8 (by decide) ho hg rfl kk
set_option maxRecDepth 20000 in
theorem cl_X7_179 {p : Program} {l : Launch} {e : Env} {R : Room} {s : State} {m : MethodId} {args : Array Value} {below : List Frame} {meth : Method} {c : Code} {d : Dp} {A : Nat → Prop} {Q : State → Prop} {nL : Nat} {σ : Sg} {k n pc : Nat} {lv : List (Nat × Value)} {cc : ByteArray} {ret : Option FieldType} (E : Ev p s m args meth c RX7 cc nL ret d A) {o : Option Nat} {b : Nat} {x1 : Int32} {r : Int32} {rest : List Value} {σ1 : Sg} (hM : Mt l d yX7_thingAt cX7_thingAt 2 (some .int) 0 0 σ [.ref b, .int x1] (some (.int r)) σ1 0 0) (hd : decode cc pc = .ok (.invokevirtual 179, 3)) (hR : 0 + 1 ≤ R.frames ∧ 8 + (2 + 11) + 0 ≤ R.locals) (hf : k + 0 ≤ R.cells ∧ n + 0 ≤ R.slots) (hcat : (rest.map fun v => v.category).sum ≤ 8) (ho : o = some b) (hg : gc σ b = 9) (kk : Gk p l e R s m args below meth c d A Q nL σ1 k n (pc + 3) lv (.int r :: rest)) : Gk p l e R s m args below meth c d A Q nL σ k n pc lv (.int x1 :: va_rf o :: rest) :=
  r_cV (As := [.int x1]) (rest := rest) (ci := 8) (nA := 1) E hM hd wm_4_95 wm_4_97 wm_p_55 wm_1_9 wm_4_98 rfl ⟨by decide, by decide, by decide +kernel⟩ rfl hR hf rfl (by decide) ho hg rfl hcat kk
set_option maxRecDepth 20000 in
theorem gf_X7_108 {p : Program} {l : Launch} {e : Env} {R : Room} {s : State} {m : MethodId} {args : Array Value} {below : List Frame} {meth : Method} {c : Code} {d : Dp} {A : Nat → Prop} {Q : State → Prop} {nL : Nat} {σ : Sg} {k n pc : Nat} {lv : List (Nat × Value)} {st : List Value} {cc : ByteArray} {ret : Option FieldType} (E : Ev p s m args meth c RX7 cc nL ret d A) {o : Option Nat} {a : Nat} {x : Int32} (hd : decode cc pc = .ok (.getfield 108, 3)) (ho : o = some a) (hg : gc σ a = 9) (hx : gi σ 826 a = x) (kk : Gk p l e R s m args below meth c d A Q nL σ k n (pc + 3) lv (.int x :: st)) : Gk p l e R s m args below meth c d A Q nL σ k n pc lv (va_rf o :: st) := by
  subst hx
  exact r_get (ci := 8) (j := 26) (T := TX7) (rf := "FrameTalkModel") E hd wm_3_161 (fun _ h9 => h9) rfl (by decide) inw_8 (by decide) ho hg rfl kk
set_option maxRecDepth 20000 in
theorem gf_X7_61 {p : Program} {l : Launch} {e : Env} {R : Room} {s : State} {m : MethodId} {args : Array Value} {below : List Frame} {meth : Method} {c : Code} {d : Dp} {A : Nat → Prop} {Q : State → Prop} {nL : Nat} {σ : Sg} {k n pc : Nat} {lv : List (Nat × Value)} {st : List Value} {cc : ByteArray} {ret : Option FieldType} (E : Ev p s m args meth c RX7 cc nL ret d A) {o : Option Nat} {a : Nat} {x : Int32} (hd : decode cc pc = .ok (.getfield 61, 3)) (ho : o = some a) (hg : gc σ a = 9) (hx : gi σ 827 a = x) (kk : Gk p l e R s m args below meth c d A Q nL σ k n (pc + 3) lv (.int x :: st)) : Gk p l e R s m args below meth c d A Q nL σ k n pc lv (va_rf o :: st) := by
  subst hx
  exact r_get (ci := 8) (j := 27) (T := TX7) (rf := "FrameTalkModel") E hd wm_3_162 (fun _ h9 => h9) rfl (by decide) inw_8 (by decide) ho hg rfl kk
set_option maxRecDepth 20000 in
theorem inw_1 : ∀ w ∈ u_ws RX0 TX0 10, w ∈ wsL_law := by
  intro w hw
  obtain ⟨i, hi, rfl⟩ := List.mem_map.mp hw
  have hi := List.mem_range.mp hi
  match i, hi with
  | 0, _ => exact wm_1_108
  | 1, _ => exact wm_1_110
  | 2, _ => exact wm_1_112
  | 3, _ => exact wm_1_114
  | 4, _ => exact wm_1_116
  | 5, _ => exact wm_1_118
  | 6, _ => exact wm_1_120
  | 7, _ => exact wm_1_122
  | 8, _ => exact wm_1_124
  | 9, _ => exact wm_1_126
  | i + 10, hi => exact absurd hi (by omega)
set_option maxRecDepth 20000 in
theorem pf_X0_7 {p : Program} {l : Launch} {e : Env} {R : Room} {s : State} {m : MethodId} {args : Array Value} {below : List Frame} {meth : Method} {c : Code} {d : Dp} {A : Nat → Prop} {Q : State → Prop} {nL : Nat} {σ : Sg} {k n pc : Nat} {lv : List (Nat × Value)} {st : List Value} {cc : ByteArray} {ret : Option FieldType} (E : Ev p s m args meth c RX0 cc nL ret d A) {o : Option Nat} {a : Nat} {x : Option Nat} (hini : meth.name = "<init>") (hd : decode cc pc = .ok (.putfield 7, 3)) (ho : o = some a) (hg : gc σ a = 2) (kk : Gk p l e R s m args below meth c d A Q nL (sp σ 100 a x) k n (pc + 3) lv st) : Gk p l e R s m args below meth c d A Q nL σ k n pc lv (va_rf x :: va_rf o :: st) :=
  r_putF (ci := 1) (j := 0) (T := TX0) (rf := "FrameTalk$Frame") (σ' := sp σ 100 a x) (ty := tyX0 0) E hd wm_1_89 (fun _ h9 => h9) rfl (by decide) inw_1 (by decide) tyX0 tyX0_ok nmX0 rfl hini rfl (tyX0_ok 0 (by decide)) (by cases x <;> rfl) (by cases x <;> rfl) ho hg (by simp [fl]) rfl rfl (fun b hb c => fl_sp hb c) (fun _ _ => rfl) fs_100 kk
set_option maxRecDepth 20000 in
theorem pf_X0_13 {p : Program} {l : Launch} {e : Env} {R : Room} {s : State} {m : MethodId} {args : Array Value} {below : List Frame} {meth : Method} {c : Code} {d : Dp} {A : Nat → Prop} {Q : State → Prop} {nL : Nat} {σ : Sg} {k n pc : Nat} {lv : List (Nat × Value)} {st : List Value} {cc : ByteArray} {ret : Option FieldType} (E : Ev p s m args meth c RX0 cc nL ret d A) {o : Option Nat} {a : Nat} {x : Int32} (hini : meth.name = "<init>") (hd : decode cc pc = .ok (.putfield 13, 3)) (ho : o = some a) (hg : gc σ a = 2) (kk : Gk p l e R s m args below meth c d A Q nL (si σ 101 a x) k n (pc + 3) lv st) : Gk p l e R s m args below meth c d A Q nL σ k n pc lv (.int x :: va_rf o :: st) :=
  r_putF (ci := 1) (j := 1) (T := TX0) (rf := "FrameTalk$Frame") (σ' := si σ 101 a x) (ty := tyX0 1) E hd wm_1_91 (fun _ h9 => h9) rfl (by decide) inw_1 (by decide) tyX0 tyX0_ok nmX0 rfl hini rfl (tyX0_ok 1 (by decide)) rfl rfl ho hg (by simp [fl]) rfl rfl (fun b hb c => fl_si hb c) (fun _ _ => rfl) fs_101 kk
set_option maxRecDepth 20000 in
theorem gf_X0_17 {p : Program} {l : Launch} {e : Env} {R : Room} {s : State} {m : MethodId} {args : Array Value} {below : List Frame} {meth : Method} {c : Code} {d : Dp} {A : Nat → Prop} {Q : State → Prop} {nL : Nat} {σ : Sg} {k n pc : Nat} {lv : List (Nat × Value)} {st : List Value} {cc : ByteArray} {ret : Option FieldType} (E : Ev p s m args meth c RX0 cc nL ret d A) {o : Option Nat} {a : Nat} {x : Option Nat} (hd : decode cc pc = .ok (.getfield 17, 3)) (ho : o = some a) (hg : gc σ a = 2) (hx : gp σ 102 a = x) (kk : Gk p l e R s m args below meth c d A Q nL σ k n (pc + 3) lv (va_rf x :: st)) : Gk p l e R s m args below meth c d A Q nL σ k n pc lv (va_rf o :: st) := by
  subst hx
  exact r_get (ci := 1) (j := 2) (T := TX0) (rf := "FrameTalk$Frame") E hd wm_1_93 (fun _ h9 => h9) rfl (by decide) inw_1 (by decide) ho hg rfl kk
set_option maxRecDepth 20000 in
theorem nf_1 {σ : Sg} : ∀ j, j < 10 → defaultValue (tyX0 j) = vp_V (fl 1 (nw σ 2) (hs σ)) j := by
  intro j hj
  match j, hj with
  | 0, _ => simp [tyX0, defaultValue, vp_V, fl, gi, gj, gp, nw, uc, va_rf]
  | 1, _ => simp [tyX0, defaultValue, vp_V, fl, gi, gj, gp, nw, uc, va_rf]
  | 2, _ => simp [tyX0, defaultValue, vp_V, fl, gi, gj, gp, nw, uc, va_rf]
  | 3, _ => simp [tyX0, defaultValue, vp_V, fl, gi, gj, gp, nw, uc, va_rf]
  | 4, _ => simp [tyX0, defaultValue, vp_V, fl, gi, gj, gp, nw, uc, va_rf]
  | 5, _ => simp [tyX0, defaultValue, vp_V, fl, gi, gj, gp, nw, uc, va_rf]
  | 6, _ => simp [tyX0, defaultValue, vp_V, fl, gi, gj, gp, nw, uc, va_rf]
  | 7, _ => simp [tyX0, defaultValue, vp_V, fl, gi, gj, gp, nw, uc, va_rf]
  | 8, _ => simp [tyX0, defaultValue, vp_V, fl, gi, gj, gp, nw, uc, va_rf]
  | 9, _ => simp [tyX0, defaultValue, vp_V, fl, gi, gj, gp, nw, uc, va_rf]
  | j + 10, hj => exact absurd hj (by omega)
set_option maxRecDepth 20000 in
theorem nw_X0_8 {p : Program} {l : Launch} {e : Env} {R : Room} {s : State} {m : MethodId} {args : Array Value} {below : List Frame} {meth : Method} {c : Code} {d : Dp} {A : Nat → Prop} {Q : State → Prop} {nL : Nat} {σ : Sg} {k n pc : Nat} {lv : List (Nat × Value)} {st : List Value} {cc : ByteArray} {ret : Option FieldType} (E : Ev p s m args meth c RX0 cc nL ret d A) (hd : decode cc pc = .ok (.new 8, 3)) (hR : k + 1 ≤ R.cells ∧ n + 10 ≤ R.slots) (kk : Gk p l e R s m args below meth c d A Q nL (nw σ 2) (k + 1) (n + 10) (pc + 3) lv (va_rf (some (hs σ)) :: st)) : Gk p l e R s m args below meth c d A Q nL σ k n pc lv st :=
  r_new (ci := 1) (C := RX0) (T := TX0) (N := 10) E hd wm_2_115 wm_1_84 wm_1_8 rfl (by decide) inw_1 tyX0 tyX0_ok (fun j hj => nf_1 j hj) hR kk
set_option maxRecDepth 20000 in
theorem gf_X0_13 {p : Program} {l : Launch} {e : Env} {R : Room} {s : State} {m : MethodId} {args : Array Value} {below : List Frame} {meth : Method} {c : Code} {d : Dp} {A : Nat → Prop} {Q : State → Prop} {nL : Nat} {σ : Sg} {k n pc : Nat} {lv : List (Nat × Value)} {st : List Value} {cc : ByteArray} {ret : Option FieldType} (E : Ev p s m args meth c RX0 cc nL ret d A) {o : Option Nat} {a : Nat} {x : Int32} (hd : decode cc pc = .ok (.getfield 13, 3)) (ho : o = some a) (hg : gc σ a = 2) (hx : gi σ 101 a = x) (kk : Gk p l e R s m args below meth c d A Q nL σ k n (pc + 3) lv (.int x :: st)) : Gk p l e R s m args below meth c d A Q nL σ k n pc lv (va_rf o :: st) := by
  subst hx
  exact r_get (ci := 1) (j := 1) (T := TX0) (rf := "FrameTalk$Frame") E hd wm_1_91 (fun _ h9 => h9) rfl (by decide) inw_1 (by decide) ho hg rfl kk
set_option maxRecDepth 20000 in
theorem cl_X0_20 {p : Program} {l : Launch} {e : Env} {R : Room} {s : State} {m : MethodId} {args : Array Value} {below : List Frame} {meth : Method} {c : Code} {d : Dp} {A : Nat → Prop} {Q : State → Prop} {nL : Nat} {σ : Sg} {k n pc : Nat} {lv : List (Nat × Value)} {cc : ByteArray} {ret : Option FieldType} (E : Ev p s m args meth c RX0 cc nL ret d A) {o : Option Nat} {b : Nat} {x1 : Option Nat} {x2 : Int32}  {rest : List Value} {σ1 : Sg} (hM : Mt l d yX0_init cX0_init 3 none 1 20 σ [.ref b, va_rf x1, .int x2] none σ1 0 0) (hd : decode cc pc = .ok (.invokespecial 20, 3)) (hR : 1 + 1 ≤ R.frames ∧ 8 + (3 + 11) + 20 ≤ R.locals) (hf : k + 0 ≤ R.cells ∧ n + 0 ≤ R.slots) (hcat : (rest.map fun v => v.category).sum ≤ 8) (ho : o = some b) (kk : Gk p l e R s m args below meth c d A Q nL σ1 k n (pc + 3) lv rest) : Gk p l e R s m args below meth c d A Q nL σ k n pc lv (.int x2 :: va_rf x1 :: va_rf o :: rest) :=
  r_cI (As := [va_rf x1, .int x2]) (rest := rest) (nA := 2) E hM hd wm_2_116 wm_1_86 wm_1_8 wm_1_87 rfl ⟨by decide, by decide, by decide +kernel⟩ rfl hR hf ho rfl hcat kk
set_option maxRecDepth 20000 in
theorem pf_X0_17 {p : Program} {l : Launch} {e : Env} {R : Room} {s : State} {m : MethodId} {args : Array Value} {below : List Frame} {meth : Method} {c : Code} {d : Dp} {A : Nat → Prop} {Q : State → Prop} {nL : Nat} {σ : Sg} {k n pc : Nat} {lv : List (Nat × Value)} {st : List Value} {cc : ByteArray} {ret : Option FieldType} (E : Ev p s m args meth c RX0 cc nL ret d A) {o : Option Nat} {a : Nat} {x : Option Nat} (hd : decode cc pc = .ok (.putfield 17, 3)) (ho : o = some a) (hg : gc σ a = 2) (kk : Gk p l e R s m args below meth c d A Q nL (sp σ 102 a x) k n (pc + 3) lv st) : Gk p l e R s m args below meth c d A Q nL σ k n pc lv (va_rf x :: va_rf o :: st) :=
  r_put (ci := 1) (j := 2) (T := TX0) (rf := "FrameTalk$Frame") (σ' := sp σ 102 a x) (ty := tyX0 2) E hd wm_1_93 (fun _ h9 => h9) rfl (by decide) inw_1 (by decide) tyX0 tyX0_ok nmX0 rfl (tyX0_ok 2 (by decide)) (by cases x <;> rfl) (by cases x <;> rfl) ho hg (by simp [fl]) rfl rfl (fun b hb c => fl_sp hb c) (fun _ _ => rfl) fs_102 kk
set_option maxRecDepth 20000 in
theorem pf_X0_23 {p : Program} {l : Launch} {e : Env} {R : Room} {s : State} {m : MethodId} {args : Array Value} {below : List Frame} {meth : Method} {c : Code} {d : Dp} {A : Nat → Prop} {Q : State → Prop} {nL : Nat} {σ : Sg} {k n pc : Nat} {lv : List (Nat × Value)} {st : List Value} {cc : ByteArray} {ret : Option FieldType} (E : Ev p s m args meth c RX0 cc nL ret d A) {o : Option Nat} {a : Nat} {x : Option Nat} (hd : decode cc pc = .ok (.putfield 23, 3)) (ho : o = some a) (hg : gc σ a = 2) (kk : Gk p l e R s m args below meth c d A Q nL (sp σ 103 a x) k n (pc + 3) lv st) : Gk p l e R s m args below meth c d A Q nL σ k n pc lv (va_rf x :: va_rf o :: st) :=
  r_put (ci := 1) (j := 3) (T := TX0) (rf := "FrameTalk$Frame") (σ' := sp σ 103 a x) (ty := tyX0 3) E hd wm_1_94 (fun _ h9 => h9) rfl (by decide) inw_1 (by decide) tyX0 tyX0_ok nmX0 rfl (tyX0_ok 3 (by decide)) (by cases x <;> rfl) (by cases x <;> rfl) ho hg (by simp [fl]) rfl rfl (fun b hb c => fl_sp hb c) (fun _ _ => rfl) fs_103 kk
set_option maxRecDepth 20000 in
theorem pf_X0_27 {p : Program} {l : Launch} {e : Env} {R : Room} {s : State} {m : MethodId} {args : Array Value} {below : List Frame} {meth : Method} {c : Code} {d : Dp} {A : Nat → Prop} {Q : State → Prop} {nL : Nat} {σ : Sg} {k n pc : Nat} {lv : List (Nat × Value)} {st : List Value} {cc : ByteArray} {ret : Option FieldType} (E : Ev p s m args meth c RX0 cc nL ret d A) {o : Option Nat} {a : Nat} {x : Int32} (hd : decode cc pc = .ok (.putfield 27, 3)) (ho : o = some a) (hg : gc σ a = 2) (kk : Gk p l e R s m args below meth c d A Q nL (si σ 104 a x) k n (pc + 3) lv st) : Gk p l e R s m args below meth c d A Q nL σ k n pc lv (.int x :: va_rf o :: st) :=
  r_put (ci := 1) (j := 4) (T := TX0) (rf := "FrameTalk$Frame") (σ' := si σ 104 a x) (ty := tyX0 4) E hd wm_1_96 (fun _ h9 => h9) rfl (by decide) inw_1 (by decide) tyX0 tyX0_ok nmX0 rfl (tyX0_ok 4 (by decide)) rfl rfl ho hg (by simp [fl]) rfl rfl (fun b hb c => fl_si hb c) (fun _ _ => rfl) fs_104 kk
set_option maxRecDepth 20000 in
theorem pf_X0_30 {p : Program} {l : Launch} {e : Env} {R : Room} {s : State} {m : MethodId} {args : Array Value} {below : List Frame} {meth : Method} {c : Code} {d : Dp} {A : Nat → Prop} {Q : State → Prop} {nL : Nat} {σ : Sg} {k n pc : Nat} {lv : List (Nat × Value)} {st : List Value} {cc : ByteArray} {ret : Option FieldType} (E : Ev p s m args meth c RX0 cc nL ret d A) {o : Option Nat} {a : Nat} {x : Option Nat} (hd : decode cc pc = .ok (.putfield 30, 3)) (ho : o = some a) (hg : gc σ a = 2) (kk : Gk p l e R s m args below meth c d A Q nL (sp σ 105 a x) k n (pc + 3) lv st) : Gk p l e R s m args below meth c d A Q nL σ k n pc lv (va_rf x :: va_rf o :: st) :=
  r_put (ci := 1) (j := 5) (T := TX0) (rf := "FrameTalk$Frame") (σ' := sp σ 105 a x) (ty := tyX0 5) E hd wm_1_98 (fun _ h9 => h9) rfl (by decide) inw_1 (by decide) tyX0 tyX0_ok nmX0 rfl (tyX0_ok 5 (by decide)) (by cases x <;> rfl) (by cases x <;> rfl) ho hg (by simp [fl]) rfl rfl (fun b hb c => fl_sp hb c) (fun _ _ => rfl) fs_105 kk
set_option maxRecDepth 20000 in
theorem pf_X0_34 {p : Program} {l : Launch} {e : Env} {R : Room} {s : State} {m : MethodId} {args : Array Value} {below : List Frame} {meth : Method} {c : Code} {d : Dp} {A : Nat → Prop} {Q : State → Prop} {nL : Nat} {σ : Sg} {k n pc : Nat} {lv : List (Nat × Value)} {st : List Value} {cc : ByteArray} {ret : Option FieldType} (E : Ev p s m args meth c RX0 cc nL ret d A) {o : Option Nat} {a : Nat} {x : Option Nat} (hd : decode cc pc = .ok (.putfield 34, 3)) (ho : o = some a) (hg : gc σ a = 2) (kk : Gk p l e R s m args below meth c d A Q nL (sp σ 106 a x) k n (pc + 3) lv st) : Gk p l e R s m args below meth c d A Q nL σ k n pc lv (va_rf x :: va_rf o :: st) :=
  r_put (ci := 1) (j := 6) (T := TX0) (rf := "FrameTalk$Frame") (σ' := sp σ 106 a x) (ty := tyX0 6) E hd wm_1_100 (fun _ h9 => h9) rfl (by decide) inw_1 (by decide) tyX0 tyX0_ok nmX0 rfl (tyX0_ok 6 (by decide)) (by cases x <;> rfl) (by cases x <;> rfl) ho hg (by simp [fl]) rfl rfl (fun b hb c => fl_sp hb c) (fun _ _ => rfl) fs_106 kk
set_option maxRecDepth 20000 in
theorem pf_X0_37 {p : Program} {l : Launch} {e : Env} {R : Room} {s : State} {m : MethodId} {args : Array Value} {below : List Frame} {meth : Method} {c : Code} {d : Dp} {A : Nat → Prop} {Q : State → Prop} {nL : Nat} {σ : Sg} {k n pc : Nat} {lv : List (Nat × Value)} {st : List Value} {cc : ByteArray} {ret : Option FieldType} (E : Ev p s m args meth c RX0 cc nL ret d A) {o : Option Nat} {a : Nat} {x : Option Nat} (hd : decode cc pc = .ok (.putfield 37, 3)) (ho : o = some a) (hg : gc σ a = 2) (kk : Gk p l e R s m args below meth c d A Q nL (sp σ 107 a x) k n (pc + 3) lv st) : Gk p l e R s m args below meth c d A Q nL σ k n pc lv (va_rf x :: va_rf o :: st) :=
  r_put (ci := 1) (j := 7) (T := TX0) (rf := "FrameTalk$Frame") (σ' := sp σ 107 a x) (ty := tyX0 7) E hd wm_1_102 (fun _ h9 => h9) rfl (by decide) inw_1 (by decide) tyX0 tyX0_ok nmX0 rfl (tyX0_ok 7 (by decide)) (by cases x <;> rfl) (by cases x <;> rfl) ho hg (by simp [fl]) rfl rfl (fun b hb c => fl_sp hb c) (fun _ _ => rfl) fs_107 kk
set_option maxRecDepth 20000 in
theorem pf_X0_40 {p : Program} {l : Launch} {e : Env} {R : Room} {s : State} {m : MethodId} {args : Array Value} {below : List Frame} {meth : Method} {c : Code} {d : Dp} {A : Nat → Prop} {Q : State → Prop} {nL : Nat} {σ : Sg} {k n pc : Nat} {lv : List (Nat × Value)} {st : List Value} {cc : ByteArray} {ret : Option FieldType} (E : Ev p s m args meth c RX0 cc nL ret d A) {o : Option Nat} {a : Nat} {x : Option Nat} (hd : decode cc pc = .ok (.putfield 40, 3)) (ho : o = some a) (hg : gc σ a = 2) (kk : Gk p l e R s m args below meth c d A Q nL (sp σ 108 a x) k n (pc + 3) lv st) : Gk p l e R s m args below meth c d A Q nL σ k n pc lv (va_rf x :: va_rf o :: st) :=
  r_put (ci := 1) (j := 8) (T := TX0) (rf := "FrameTalk$Frame") (σ' := sp σ 108 a x) (ty := tyX0 8) E hd wm_1_104 (fun _ h9 => h9) rfl (by decide) inw_1 (by decide) tyX0 tyX0_ok nmX0 rfl (tyX0_ok 8 (by decide)) (by cases x <;> rfl) (by cases x <;> rfl) ho hg (by simp [fl]) rfl rfl (fun b hb c => fl_sp hb c) (fun _ _ => rfl) fs_108 kk
set_option maxRecDepth 20000 in
theorem pf_X0_43 {p : Program} {l : Launch} {e : Env} {R : Room} {s : State} {m : MethodId} {args : Array Value} {below : List Frame} {meth : Method} {c : Code} {d : Dp} {A : Nat → Prop} {Q : State → Prop} {nL : Nat} {σ : Sg} {k n pc : Nat} {lv : List (Nat × Value)} {st : List Value} {cc : ByteArray} {ret : Option FieldType} (E : Ev p s m args meth c RX0 cc nL ret d A) {o : Option Nat} {a : Nat} {x : Int64} (hd : decode cc pc = .ok (.putfield 43, 3)) (ho : o = some a) (hg : gc σ a = 2) (kk : Gk p l e R s m args below meth c d A Q nL (sj σ 109 a x) k n (pc + 3) lv st) : Gk p l e R s m args below meth c d A Q nL σ k n pc lv (.long x :: va_rf o :: st) :=
  r_put (ci := 1) (j := 9) (T := TX0) (rf := "FrameTalk$Frame") (σ' := sj σ 109 a x) (ty := tyX0 9) E hd wm_1_106 (fun _ h9 => h9) rfl (by decide) inw_1 (by decide) tyX0 tyX0_ok nmX0 rfl (tyX0_ok 9 (by decide)) rfl rfl ho hg (by simp [fl]) rfl rfl (fun b hb c => fl_sj hb c) (fun _ _ => rfl) fs_109 kk
set_option maxRecDepth 20000 in
theorem gf_X0_27 {p : Program} {l : Launch} {e : Env} {R : Room} {s : State} {m : MethodId} {args : Array Value} {below : List Frame} {meth : Method} {c : Code} {d : Dp} {A : Nat → Prop} {Q : State → Prop} {nL : Nat} {σ : Sg} {k n pc : Nat} {lv : List (Nat × Value)} {st : List Value} {cc : ByteArray} {ret : Option FieldType} (E : Ev p s m args meth c RX0 cc nL ret d A) {o : Option Nat} {a : Nat} {x : Int32} (hd : decode cc pc = .ok (.getfield 27, 3)) (ho : o = some a) (hg : gc σ a = 2) (hx : gi σ 104 a = x) (kk : Gk p l e R s m args below meth c d A Q nL σ k n (pc + 3) lv (.int x :: st)) : Gk p l e R s m args below meth c d A Q nL σ k n pc lv (va_rf o :: st) := by
  subst hx
  exact r_get (ci := 1) (j := 4) (T := TX0) (rf := "FrameTalk$Frame") E hd wm_1_96 (fun _ h9 => h9) rfl (by decide) inw_1 (by decide) ho hg rfl kk
set_option maxRecDepth 20000 in
theorem cl_Jxc12de_1 {p : Program} {l : Launch} {e : Env} {R : Room} {s : State} {m : MethodId} {args : Array Value} {below : List Frame} {meth : Method} {c : Code} {d : Dp} {A : Nat → Prop} {Q : State → Prop} {nL : Nat} {σ : Sg} {k n pc : Nat} {lv : List (Nat × Value)} {cc : ByteArray} {ret : Option FieldType} (E : Ev p s m args meth c RJxc12de cc nL ret d A) {o : Option Nat} {b : Nat}   {rest : List Value} {σ1 : Sg} (hM : Mt l d yJxa1e45_init_da8c8 cJxa1e45_init_da8c8 1 none 1 20 σ [.ref b] none σ1 0 0) (hd : decode cc pc = .ok (.invokespecial 1, 3)) (hR : 1 + 1 ≤ R.frames ∧ 8 + (1 + 11) + 20 ≤ R.locals) (hf : k + 0 ≤ R.cells ∧ n + 0 ≤ R.slots) (hcat : (rest.map fun v => v.category).sum ≤ 8) (ho : o = some b) (kk : Gk p l e R s m args below meth c d A Q nL σ1 k n (pc + 3) lv rest) : Gk p l e R s m args below meth c d A Q nL σ k n pc lv (va_rf o :: rest) :=
  r_cI (As := []) (rest := rest) (nA := 0) E hM hd wm_1_46 wm_1_47 wm_1_4 wm_1_48 rfl ⟨by decide, by decide, by decide +kernel⟩ rfl hR hf ho rfl hcat kk
set_option maxRecDepth 20000 in
theorem inw_0 : ∀ w ∈ u_ws RJx4a65c TJx4a65c 3, w ∈ wsL_law := by
  intro w hw
  obtain ⟨i, hi, rfl⟩ := List.mem_map.mp hw
  have hi := List.mem_range.mp hi
  match i, hi with
  | 0, _ => exact wm_1_61
  | 1, _ => exact wm_1_57
  | 2, _ => exact wm_1_59
  | i + 3, hi => exact absurd hi (by omega)
set_option maxRecDepth 20000 in
theorem pf_Jxc12de_7 {p : Program} {l : Launch} {e : Env} {R : Room} {s : State} {m : MethodId} {args : Array Value} {below : List Frame} {meth : Method} {c : Code} {d : Dp} {A : Nat → Prop} {Q : State → Prop} {nL : Nat} {σ : Sg} {k n pc : Nat} {lv : List (Nat × Value)} {st : List Value} {cc : ByteArray} {ret : Option FieldType} (E : Ev p s m args meth c RJxc12de cc nL ret d A) {o : Option Nat} {a : Nat} {x : Int32} (hd : decode cc pc = .ok (.putfield 7, 3)) (ho : o = some a) (hg : gc σ a = 1) (kk : Gk p l e R s m args below meth c d A Q nL (si σ 0 a x) k n (pc + 3) lv st) : Gk p l e R s m args below meth c d A Q nL σ k n pc lv (.int x :: va_rf o :: st) :=
  r_put (ci := 0) (j := 0) (T := TJx4a65c) (rf := "java/util/AbstractList") (σ' := si σ 0 a x) (ty := tyJx4a65c 0) E hd wm_1_54 (fun _ h9 => h9) rfl (by decide) inw_0 (by decide) tyJx4a65c tyJx4a65c_ok nmJx4a65c rfl (tyJx4a65c_ok 0 (by decide)) rfl rfl ho hg (by simp [fl]) rfl rfl (fun b hb c => fl_si hb c) (fun _ _ => rfl) fs_0 kk
set_option maxRecDepth 20000 in
theorem cl_Jx4a65c_1 {p : Program} {l : Launch} {e : Env} {R : Room} {s : State} {m : MethodId} {args : Array Value} {below : List Frame} {meth : Method} {c : Code} {d : Dp} {A : Nat → Prop} {Q : State → Prop} {nL : Nat} {σ : Sg} {k n pc : Nat} {lv : List (Nat × Value)} {cc : ByteArray} {ret : Option FieldType} (E : Ev p s m args meth c RJx4a65c cc nL ret d A) {o : Option Nat} {b : Nat}   {rest : List Value} {σ1 : Sg} (hM : Mt l d yJxc12de_init_da8c8 cJxc12de_init_da8c8 1 none 2 40 σ [.ref b] none σ1 0 0) (hd : decode cc pc = .ok (.invokespecial 1, 3)) (hR : 2 + 1 ≤ R.frames ∧ 8 + (1 + 11) + 40 ≤ R.locals) (hf : k + 0 ≤ R.cells ∧ n + 0 ≤ R.slots) (hcat : (rest.map fun v => v.category).sum ≤ 8) (ho : o = some b) (kk : Gk p l e R s m args below meth c d A Q nL σ1 k n (pc + 3) lv rest) : Gk p l e R s m args below meth c d A Q nL σ k n pc lv (va_rf o :: rest) :=
  r_cI (As := []) (rest := rest) (nA := 0) E hM hd wm_1_43 wm_1_44 wm_1_5 wm_1_45 rfl ⟨by decide, by decide, by decide +kernel⟩ rfl hR hf ho rfl hcat kk
set_option maxRecDepth 20000 in
theorem pf_Jx4a65c_9 {p : Program} {l : Launch} {e : Env} {R : Room} {s : State} {m : MethodId} {args : Array Value} {below : List Frame} {meth : Method} {c : Code} {d : Dp} {A : Nat → Prop} {Q : State → Prop} {nL : Nat} {σ : Sg} {k n pc : Nat} {lv : List (Nat × Value)} {st : List Value} {cc : ByteArray} {ret : Option FieldType} (E : Ev p s m args meth c RJx4a65c cc nL ret d A) {o : Option Nat} {a : Nat} {x : Option Nat} (hd : decode cc pc = .ok (.putfield 9, 3)) (ho : o = some a) (hg : gc σ a = 1) (kk : Gk p l e R s m args below meth c d A Q nL (sp σ 1 a x) k n (pc + 3) lv st) : Gk p l e R s m args below meth c d A Q nL σ k n pc lv (va_rf x :: va_rf o :: st) :=
  r_put (ci := 0) (j := 1) (T := TJx4a65c) (rf := "java/util/ArrayList") (σ' := sp σ 1 a x) (ty := tyJx4a65c 1) E hd wm_1_52 (fun _ h9 => h9) rfl (by decide) inw_0 (by decide) tyJx4a65c tyJx4a65c_ok nmJx4a65c rfl (tyJx4a65c_ok 1 (by decide)) (by cases x <;> rfl) (by cases x <;> rfl) ho hg (by simp [fl]) rfl rfl (fun b hb c => fl_sp hb c) (fun _ _ => rfl) fs_1 kk
set_option maxRecDepth 20000 in
theorem nf_0 {σ : Sg} : ∀ j, j < 3 → defaultValue (tyJx4a65c j) = vp_V (fl 0 (nw σ 1) (hs σ)) j := by
  intro j hj
  match j, hj with
  | 0, _ => simp [tyJx4a65c, defaultValue, vp_V, fl, gi, gj, gp, nw, uc, va_rf]
  | 1, _ => simp [tyJx4a65c, defaultValue, vp_V, fl, gi, gj, gp, nw, uc, va_rf]
  | 2, _ => simp [tyJx4a65c, defaultValue, vp_V, fl, gi, gj, gp, nw, uc, va_rf]
  | j + 3, hj => exact absurd hj (by omega)
set_option maxRecDepth 20000 in
theorem nw_X4_9 {p : Program} {l : Launch} {e : Env} {R : Room} {s : State} {m : MethodId} {args : Array Value} {below : List Frame} {meth : Method} {c : Code} {d : Dp} {A : Nat → Prop} {Q : State → Prop} {nL : Nat} {σ : Sg} {k n pc : Nat} {lv : List (Nat × Value)} {st : List Value} {cc : ByteArray} {ret : Option FieldType} (E : Ev p s m args meth c RX4 cc nL ret d A) (hd : decode cc pc = .ok (.new 9, 3)) (hR : k + 1 ≤ R.cells ∧ n + 3 ≤ R.slots) (kk : Gk p l e R s m args below meth c d A Q nL (nw σ 1) (k + 1) (n + 3) (pc + 3) lv (va_rf (some (hs σ)) :: st)) : Gk p l e R s m args below meth c d A Q nL σ k n pc lv st :=
  r_new (ci := 0) (C := RJx4a65c) (T := TJx4a65c) (N := 3) E hd wm_1_38 wm_1_39 wm_1_6 rfl (by decide) inw_0 tyJx4a65c tyJx4a65c_ok (fun j hj => nf_0 j hj) hR kk
set_option maxRecDepth 20000 in
theorem cl_X4_11 {p : Program} {l : Launch} {e : Env} {R : Room} {s : State} {m : MethodId} {args : Array Value} {below : List Frame} {meth : Method} {c : Code} {d : Dp} {A : Nat → Prop} {Q : State → Prop} {nL : Nat} {σ : Sg} {k n pc : Nat} {lv : List (Nat × Value)} {cc : ByteArray} {ret : Option FieldType} (E : Ev p s m args meth c RX4 cc nL ret d A) {o : Option Nat} {b : Nat}   {rest : List Value} {σ1 : Sg} (hM : Mt l d yJx4a65c_init_da8c8 cJx4a65c_init_da8c8 1 none 3 60 σ [.ref b] none σ1 0 0) (hd : decode cc pc = .ok (.invokespecial 11, 3)) (hR : 3 + 1 ≤ R.frames ∧ 8 + (1 + 11) + 60 ≤ R.locals) (hf : k + 0 ≤ R.cells ∧ n + 0 ≤ R.slots) (hcat : (rest.map fun v => v.category).sum ≤ 8) (ho : o = some b) (kk : Gk p l e R s m args below meth c d A Q nL σ1 k n (pc + 3) lv rest) : Gk p l e R s m args below meth c d A Q nL σ k n pc lv (va_rf o :: rest) :=
  r_cI (As := []) (rest := rest) (nA := 0) E hM hd wm_1_40 wm_1_41 wm_1_6 wm_1_42 rfl ⟨by decide, by decide, by decide +kernel⟩ rfl hR hf ho rfl hcat kk
set_option maxRecDepth 20000 in
theorem inw_5 : ∀ w ∈ u_ws RX4 TX4 1, w ∈ wsL_law := by
  intro w hw
  obtain ⟨i, hi, rfl⟩ := List.mem_map.mp hw
  have hi := List.mem_range.mp hi
  match i, hi with
  | 0, _ => exact wm_1_65
  | i + 1, hi => exact absurd hi (by omega)
set_option maxRecDepth 20000 in
theorem pf_X4_12 {p : Program} {l : Launch} {e : Env} {R : Room} {s : State} {m : MethodId} {args : Array Value} {below : List Frame} {meth : Method} {c : Code} {d : Dp} {A : Nat → Prop} {Q : State → Prop} {nL : Nat} {σ : Sg} {k n pc : Nat} {lv : List (Nat × Value)} {st : List Value} {cc : ByteArray} {ret : Option FieldType} (E : Ev p s m args meth c RX4 cc nL ret d A) {o : Option Nat} {a : Nat} {x : Option Nat} (hini : meth.name = "<init>") (hd : decode cc pc = .ok (.putfield 12, 3)) (ho : o = some a) (hg : gc σ a = 6) (kk : Gk p l e R s m args below meth c d A Q nL (sp σ 500 a x) k n (pc + 3) lv st) : Gk p l e R s m args below meth c d A Q nL σ k n pc lv (va_rf x :: va_rf o :: st) :=
  r_putF (ci := 5) (j := 0) (T := TX4) (rf := "FrameTalk$Program") (σ' := sp σ 500 a x) (ty := tyX4 0) E hd wm_1_64 (fun _ h9 => h9) rfl (by decide) inw_5 (by decide) tyX4 tyX4_ok nmX4 rfl hini rfl (tyX4_ok 0 (by decide)) (by cases x <;> rfl) (by cases x <;> rfl) ho hg (by simp [fl]) rfl rfl (fun b hb c => fl_sp hb c) (fun _ _ => rfl) fs_500 kk
set_option maxRecDepth 20000 in
theorem nf_5 {σ : Sg} : ∀ j, j < 1 → defaultValue (tyX4 j) = vp_V (fl 5 (nw σ 6) (hs σ)) j := by
  intro j hj
  match j, hj with
  | 0, _ => simp [tyX4, defaultValue, vp_V, fl, gi, gj, gp, nw, uc, va_rf]
  | j + 1, hj => exact absurd hj (by omega)
set_option maxRecDepth 20000 in
theorem nw_X1_9 {p : Program} {l : Launch} {e : Env} {R : Room} {s : State} {m : MethodId} {args : Array Value} {below : List Frame} {meth : Method} {c : Code} {d : Dp} {A : Nat → Prop} {Q : State → Prop} {nL : Nat} {σ : Sg} {k n pc : Nat} {lv : List (Nat × Value)} {st : List Value} {cc : ByteArray} {ret : Option FieldType} (E : Ev p s m args meth c RX1 cc nL ret d A) (hd : decode cc pc = .ok (.new 9, 3)) (hR : k + 1 ≤ R.cells ∧ n + 1 ≤ R.slots) (kk : Gk p l e R s m args below meth c d A Q nL (nw σ 6) (k + 1) (n + 1) (pc + 3) lv (va_rf (some (hs σ)) :: st)) : Gk p l e R s m args below meth c d A Q nL σ k n pc lv st :=
  r_new (ci := 5) (C := RX4) (T := TX4) (N := 1) E hd wm_1_32 wm_1_33 wm_1_3 rfl (by decide) inw_5 tyX4 tyX4_ok (fun j hj => nf_5 j hj) hR kk
set_option maxRecDepth 20000 in
theorem cl_X1_11 {p : Program} {l : Launch} {e : Env} {R : Room} {s : State} {m : MethodId} {args : Array Value} {below : List Frame} {meth : Method} {c : Code} {d : Dp} {A : Nat → Prop} {Q : State → Prop} {nL : Nat} {σ : Sg} {k n pc : Nat} {lv : List (Nat × Value)} {cc : ByteArray} {ret : Option FieldType} (E : Ev p s m args meth c RX1 cc nL ret d A) {o : Option Nat} {b : Nat} {k1 n1 : Nat}   {rest : List Value} {σ1 : Sg} (hM : Mt l d yX4_init cX4_init 1 none 4 80 σ [.ref b] none σ1 k1 n1) (hd : decode cc pc = .ok (.invokespecial 11, 3)) (hR : 4 + 1 ≤ R.frames ∧ 8 + (1 + 11) + 80 ≤ R.locals) (hf : k + k1 ≤ R.cells ∧ n + n1 ≤ R.slots) (hcat : (rest.map fun v => v.category).sum ≤ 8) (ho : o = some b) (kk : Gk p l e R s m args below meth c d A Q nL σ1 (k + k1) (n + n1) (pc + 3) lv rest) : Gk p l e R s m args below meth c d A Q nL σ k n pc lv (va_rf o :: rest) :=
  r_cN (As := []) (rest := rest) (nA := 0) E hM hd E.K.2.1 wm_1_35 wm_1_3 wm_1_36 rfl ⟨by decide, by decide, by decide +kernel⟩ rfl hR hf ho rfl hcat kk
set_option maxRecDepth 20000 in
theorem inw_2 : ∀ w ∈ u_ws RX1 TX1 13, w ∈ wsL_law := by
  intro w hw
  obtain ⟨i, hi, rfl⟩ := List.mem_map.mp hw
  have hi := List.mem_range.mp hi
  match i, hi with
  | 0, _ => exact wm_1_146
  | 1, _ => exact wm_1_148
  | 2, _ => exact wm_1_150
  | 3, _ => exact wm_1_152
  | 4, _ => exact wm_1_154
  | 5, _ => exact wm_1_156
  | 6, _ => exact wm_1_158
  | 7, _ => exact wm_1_160
  | 8, _ => exact wm_1_162
  | 9, _ => exact wm_1_164
  | 10, _ => exact wm_1_166
  | 11, _ => exact wm_1_168
  | 12, _ => exact wm_1_170
  | i + 13, hi => exact absurd hi (by omega)
set_option maxRecDepth 20000 in
theorem pf_X1_12 {p : Program} {l : Launch} {e : Env} {R : Room} {s : State} {m : MethodId} {args : Array Value} {below : List Frame} {meth : Method} {c : Code} {d : Dp} {A : Nat → Prop} {Q : State → Prop} {nL : Nat} {σ : Sg} {k n pc : Nat} {lv : List (Nat × Value)} {st : List Value} {cc : ByteArray} {ret : Option FieldType} (E : Ev p s m args meth c RX1 cc nL ret d A) {o : Option Nat} {a : Nat} {x : Option Nat} (hini : meth.name = "<init>") (hd : decode cc pc = .ok (.putfield 12, 3)) (ho : o = some a) (hg : gc σ a = 3) (kk : Gk p l e R s m args below meth c d A Q nL (sp σ 200 a x) k n (pc + 3) lv st) : Gk p l e R s m args below meth c d A Q nL σ k n pc lv (va_rf x :: va_rf o :: st) :=
  r_putF (ci := 2) (j := 0) (T := TX1) (rf := "FrameTalk$Machine") (σ' := sp σ 200 a x) (ty := tyX1 0) E hd wm_1_129 (fun _ h9 => h9) rfl (by decide) inw_2 (by decide) tyX1 tyX1_ok nmX1 rfl hini rfl (tyX1_ok 0 (by decide)) (by cases x <;> rfl) (by cases x <;> rfl) ho hg (by simp [fl]) rfl rfl (fun b hb c => fl_sp hb c) (fun _ _ => rfl) fs_200 kk
set_option maxRecDepth 20000 in
theorem inw_3 : ∀ w ∈ u_ws RX2 TX2 2, w ∈ wsL_law := by
  intro w hw
  obtain ⟨i, hi, rfl⟩ := List.mem_map.mp hw
  have hi := List.mem_range.mp hi
  match i, hi with
  | 0, _ => exact wm_1_76
  | 1, _ => exact wm_1_78
  | i + 2, hi => exact absurd hi (by omega)
set_option maxRecDepth 20000 in
theorem nf_3 {σ : Sg} : ∀ j, j < 2 → defaultValue (tyX2 j) = vp_V (fl 3 (nw σ 4) (hs σ)) j := by
  intro j hj
  match j, hj with
  | 0, _ => simp [tyX2, defaultValue, vp_V, fl, gi, gj, gp, nw, uc, va_rf]
  | 1, _ => simp [tyX2, defaultValue, vp_V, fl, gi, gj, gp, nw, uc, va_rf]
  | j + 2, hj => exact absurd hj (by omega)
set_option maxRecDepth 20000 in
theorem nw_X1_18 {p : Program} {l : Launch} {e : Env} {R : Room} {s : State} {m : MethodId} {args : Array Value} {below : List Frame} {meth : Method} {c : Code} {d : Dp} {A : Nat → Prop} {Q : State → Prop} {nL : Nat} {σ : Sg} {k n pc : Nat} {lv : List (Nat × Value)} {st : List Value} {cc : ByteArray} {ret : Option FieldType} (E : Ev p s m args meth c RX1 cc nL ret d A) (hd : decode cc pc = .ok (.new 18, 3)) (hR : k + 1 ≤ R.cells ∧ n + 2 ≤ R.slots) (kk : Gk p l e R s m args below meth c d A Q nL (nw σ 4) (k + 1) (n + 2) (pc + 3) lv (va_rf (some (hs σ)) :: st)) : Gk p l e R s m args below meth c d A Q nL σ k n pc lv st :=
  r_new (ci := 3) (C := RX2) (T := TX2) (N := 2) E hd wm_1_68 wm_1_69 wm_1_7 rfl (by decide) inw_3 tyX2 tyX2_ok (fun j hj => nf_3 j hj) hR kk
set_option maxRecDepth 20000 in
theorem cl_X1_20 {p : Program} {l : Launch} {e : Env} {R : Room} {s : State} {m : MethodId} {args : Array Value} {below : List Frame} {meth : Method} {c : Code} {d : Dp} {A : Nat → Prop} {Q : State → Prop} {nL : Nat} {σ : Sg} {k n pc : Nat} {lv : List (Nat × Value)} {cc : ByteArray} {ret : Option FieldType} (E : Ev p s m args meth c RX1 cc nL ret d A) {o : Option Nat} {b : Nat}   {rest : List Value} {σ1 : Sg} (hM : Mt l d yX2_init cX2_init 1 none 1 20 σ [.ref b] none σ1 0 0) (hd : decode cc pc = .ok (.invokespecial 20, 3)) (hR : 1 + 1 ≤ R.frames ∧ 8 + (1 + 11) + 20 ≤ R.locals) (hf : k + 0 ≤ R.cells ∧ n + 0 ≤ R.slots) (hcat : (rest.map fun v => v.category).sum ≤ 8) (ho : o = some b) (kk : Gk p l e R s m args below meth c d A Q nL σ1 k n (pc + 3) lv rest) : Gk p l e R s m args below meth c d A Q nL σ k n pc lv (va_rf o :: rest) :=
  r_cN (As := []) (rest := rest) (nA := 0) E hM hd E.K.2.2.1 wm_1_71 wm_1_7 wm_1_72 rfl ⟨by decide, by decide, by decide +kernel⟩ rfl hR hf ho rfl hcat kk
set_option maxRecDepth 20000 in
theorem pf_X1_21 {p : Program} {l : Launch} {e : Env} {R : Room} {s : State} {m : MethodId} {args : Array Value} {below : List Frame} {meth : Method} {c : Code} {d : Dp} {A : Nat → Prop} {Q : State → Prop} {nL : Nat} {σ : Sg} {k n pc : Nat} {lv : List (Nat × Value)} {st : List Value} {cc : ByteArray} {ret : Option FieldType} (E : Ev p s m args meth c RX1 cc nL ret d A) {o : Option Nat} {a : Nat} {x : Option Nat} (hini : meth.name = "<init>") (hd : decode cc pc = .ok (.putfield 21, 3)) (ho : o = some a) (hg : gc σ a = 3) (kk : Gk p l e R s m args below meth c d A Q nL (sp σ 201 a x) k n (pc + 3) lv st) : Gk p l e R s m args below meth c d A Q nL σ k n pc lv (va_rf x :: va_rf o :: st) :=
  r_putF (ci := 2) (j := 1) (T := TX1) (rf := "FrameTalk$Machine") (σ' := sp σ 201 a x) (ty := tyX1 1) E hd wm_1_131 (fun _ h9 => h9) rfl (by decide) inw_2 (by decide) tyX1 tyX1_ok nmX1 rfl hini rfl (tyX1_ok 1 (by decide)) (by cases x <;> rfl) (by cases x <;> rfl) ho hg (by simp [fl]) rfl rfl (fun b hb c => fl_sp hb c) (fun _ _ => rfl) fs_201 kk
set_option maxRecDepth 20000 in
theorem pf_X1_27 {p : Program} {l : Launch} {e : Env} {R : Room} {s : State} {m : MethodId} {args : Array Value} {below : List Frame} {meth : Method} {c : Code} {d : Dp} {A : Nat → Prop} {Q : State → Prop} {nL : Nat} {σ : Sg} {k n pc : Nat} {lv : List (Nat × Value)} {st : List Value} {cc : ByteArray} {ret : Option FieldType} (E : Ev p s m args meth c RX1 cc nL ret d A) {o : Option Nat} {a : Nat} {x : Option Nat} (hini : meth.name = "<init>") (hd : decode cc pc = .ok (.putfield 27, 3)) (ho : o = some a) (hg : gc σ a = 3) (kk : Gk p l e R s m args below meth c d A Q nL (sp σ 202 a x) k n (pc + 3) lv st) : Gk p l e R s m args below meth c d A Q nL σ k n pc lv (va_rf x :: va_rf o :: st) :=
  r_putF (ci := 2) (j := 2) (T := TX1) (rf := "FrameTalk$Machine") (σ' := sp σ 202 a x) (ty := tyX1 2) E hd wm_1_132 (fun _ h9 => h9) rfl (by decide) inw_2 (by decide) tyX1 tyX1_ok nmX1 rfl hini rfl (tyX1_ok 2 (by decide)) (by cases x <;> rfl) (by cases x <;> rfl) ho hg (by simp [fl]) rfl rfl (fun b hb c => fl_sp hb c) (fun _ _ => rfl) fs_202 kk
set_option maxRecDepth 20000 in
theorem nw_X1_31 {p : Program} {l : Launch} {e : Env} {R : Room} {s : State} {m : MethodId} {args : Array Value} {below : List Frame} {meth : Method} {c : Code} {d : Dp} {A : Nat → Prop} {Q : State → Prop} {nL : Nat} {σ : Sg} {k n pc : Nat} {lv : List (Nat × Value)} {st : List Value} {cc : ByteArray} {ret : Option FieldType} (E : Ev p s m args meth c RX1 cc nL ret d A) (hd : decode cc pc = .ok (.new 31, 3)) (hR : k + 1 ≤ R.cells ∧ n + 10 ≤ R.slots) (kk : Gk p l e R s m args below meth c d A Q nL (nw σ 2) (k + 1) (n + 10) (pc + 3) lv (va_rf (some (hs σ)) :: st)) : Gk p l e R s m args below meth c d A Q nL σ k n pc lv st :=
  r_new (ci := 1) (C := RX0) (T := TX0) (N := 10) E hd wm_1_83 wm_1_84 wm_1_8 rfl (by decide) inw_1 tyX0 tyX0_ok (fun j hj => nf_1 j hj) hR kk
set_option maxRecDepth 20000 in
theorem cl_X1_33 {p : Program} {l : Launch} {e : Env} {R : Room} {s : State} {m : MethodId} {args : Array Value} {below : List Frame} {meth : Method} {c : Code} {d : Dp} {A : Nat → Prop} {Q : State → Prop} {nL : Nat} {σ : Sg} {k n pc : Nat} {lv : List (Nat × Value)} {cc : ByteArray} {ret : Option FieldType} (E : Ev p s m args meth c RX1 cc nL ret d A) {o : Option Nat} {b : Nat} {x1 : Option Nat} {x2 : Int32}  {rest : List Value} {σ1 : Sg} (hM : Mt l d yX0_init cX0_init 3 none 1 20 σ [.ref b, va_rf x1, .int x2] none σ1 0 0) (hd : decode cc pc = .ok (.invokespecial 33, 3)) (hR : 1 + 1 ≤ R.frames ∧ 8 + (3 + 11) + 20 ≤ R.locals) (hf : k + 0 ≤ R.cells ∧ n + 0 ≤ R.slots) (hcat : (rest.map fun v => v.category).sum ≤ 8) (ho : o = some b) (kk : Gk p l e R s m args below meth c d A Q nL σ1 k n (pc + 3) lv rest) : Gk p l e R s m args below meth c d A Q nL σ k n pc lv (.int x2 :: va_rf x1 :: va_rf o :: rest) :=
  r_cI (As := [va_rf x1, .int x2]) (rest := rest) (nA := 2) E hM hd wm_1_85 wm_1_86 wm_1_8 wm_1_87 rfl ⟨by decide, by decide, by decide +kernel⟩ rfl hR hf ho rfl hcat kk
set_option maxRecDepth 20000 in
theorem pf_X1_36 {p : Program} {l : Launch} {e : Env} {R : Room} {s : State} {m : MethodId} {args : Array Value} {below : List Frame} {meth : Method} {c : Code} {d : Dp} {A : Nat → Prop} {Q : State → Prop} {nL : Nat} {σ : Sg} {k n pc : Nat} {lv : List (Nat × Value)} {st : List Value} {cc : ByteArray} {ret : Option FieldType} (E : Ev p s m args meth c RX1 cc nL ret d A) {o : Option Nat} {a : Nat} {x : Option Nat} (hini : meth.name = "<init>") (hd : decode cc pc = .ok (.putfield 36, 3)) (ho : o = some a) (hg : gc σ a = 3) (kk : Gk p l e R s m args below meth c d A Q nL (sp σ 203 a x) k n (pc + 3) lv st) : Gk p l e R s m args below meth c d A Q nL σ k n pc lv (va_rf x :: va_rf o :: st) :=
  r_putF (ci := 2) (j := 3) (T := TX1) (rf := "FrameTalk$Machine") (σ' := sp σ 203 a x) (ty := tyX1 3) E hd wm_1_133 (fun _ h9 => h9) rfl (by decide) inw_2 (by decide) tyX1 tyX1_ok nmX1 rfl hini rfl (tyX1_ok 3 (by decide)) (by cases x <;> rfl) (by cases x <;> rfl) ho hg (by simp [fl]) rfl rfl (fun b hb c => fl_sp hb c) (fun _ _ => rfl) fs_203 kk
set_option maxRecDepth 20000 in
theorem gf_X1_36 {p : Program} {l : Launch} {e : Env} {R : Room} {s : State} {m : MethodId} {args : Array Value} {below : List Frame} {meth : Method} {c : Code} {d : Dp} {A : Nat → Prop} {Q : State → Prop} {nL : Nat} {σ : Sg} {k n pc : Nat} {lv : List (Nat × Value)} {st : List Value} {cc : ByteArray} {ret : Option FieldType} (E : Ev p s m args meth c RX1 cc nL ret d A) {o : Option Nat} {a : Nat} {x : Option Nat} (hd : decode cc pc = .ok (.getfield 36, 3)) (ho : o = some a) (hg : gc σ a = 3) (hx : gp σ 203 a = x) (kk : Gk p l e R s m args below meth c d A Q nL σ k n (pc + 3) lv (va_rf x :: st)) : Gk p l e R s m args below meth c d A Q nL σ k n pc lv (va_rf o :: st) := by
  subst hx
  exact r_get (ci := 2) (j := 3) (T := TX1) (rf := "FrameTalk$Machine") E hd wm_1_133 (fun _ h9 => h9) rfl (by decide) inw_2 (by decide) ho hg rfl kk
set_option maxRecDepth 20000 in
theorem pf_X1_40 {p : Program} {l : Launch} {e : Env} {R : Room} {s : State} {m : MethodId} {args : Array Value} {below : List Frame} {meth : Method} {c : Code} {d : Dp} {A : Nat → Prop} {Q : State → Prop} {nL : Nat} {σ : Sg} {k n pc : Nat} {lv : List (Nat × Value)} {st : List Value} {cc : ByteArray} {ret : Option FieldType} (E : Ev p s m args meth c RX1 cc nL ret d A) {o : Option Nat} {a : Nat} {x : Option Nat} (hd : decode cc pc = .ok (.putfield 40, 3)) (ho : o = some a) (hg : gc σ a = 3) (kk : Gk p l e R s m args below meth c d A Q nL (sp σ 204 a x) k n (pc + 3) lv st) : Gk p l e R s m args below meth c d A Q nL σ k n pc lv (va_rf x :: va_rf o :: st) :=
  r_put (ci := 2) (j := 4) (T := TX1) (rf := "FrameTalk$Machine") (σ' := sp σ 204 a x) (ty := tyX1 4) E hd wm_1_134 (fun _ h9 => h9) rfl (by decide) inw_2 (by decide) tyX1 tyX1_ok nmX1 rfl (tyX1_ok 4 (by decide)) (by cases x <;> rfl) (by cases x <;> rfl) ho hg (by simp [fl]) rfl rfl (fun b hb c => fl_sp hb c) (fun _ _ => rfl) fs_204 kk
set_option maxRecDepth 20000 in
theorem pf_X1_43 {p : Program} {l : Launch} {e : Env} {R : Room} {s : State} {m : MethodId} {args : Array Value} {below : List Frame} {meth : Method} {c : Code} {d : Dp} {A : Nat → Prop} {Q : State → Prop} {nL : Nat} {σ : Sg} {k n pc : Nat} {lv : List (Nat × Value)} {st : List Value} {cc : ByteArray} {ret : Option FieldType} (E : Ev p s m args meth c RX1 cc nL ret d A) {o : Option Nat} {a : Nat} {x : Int32} (hd : decode cc pc = .ok (.putfield 43, 3)) (ho : o = some a) (hg : gc σ a = 3) (kk : Gk p l e R s m args below meth c d A Q nL (si σ 212 a x) k n (pc + 3) lv st) : Gk p l e R s m args below meth c d A Q nL σ k n pc lv (.int x :: va_rf o :: st) :=
  r_put (ci := 2) (j := 12) (T := TX1) (rf := "FrameTalk$Machine") (σ' := si σ 212 a x) (ty := tyX1 12) E hd wm_1_144 (fun _ h9 => h9) rfl (by decide) inw_2 (by decide) tyX1 tyX1_ok nmX1 rfl (tyX1_ok 12 (by decide)) rfl rfl ho hg (by simp [fl]) rfl rfl (fun b hb c => fl_si hb c) (fun _ _ => rfl) fs_212 kk
set_option maxRecDepth 20000 in
theorem cl_X1_47 {p : Program} {l : Launch} {e : Env} {R : Room} {s : State} {m : MethodId} {args : Array Value} {below : List Frame} {meth : Method} {c : Code} {d : Dp} {A : Nat → Prop} {Q : State → Prop} {nL : Nat} {σ : Sg} {k n pc : Nat} {lv : List (Nat × Value)} {cc : ByteArray} {ret : Option FieldType} (E : Ev p s m args meth c RX1 cc nL ret d A) {o : Option Nat} {b : Nat} {x1 : Int32} {r : Int32} {rest : List Value} {σ1 : Sg} (hM : Mt l d yX1_isSlot cX1_isSlot 2 (some .boolean) 0 0 σ [.ref b, .int x1] (some (.int r)) σ1 0 0) (hd : decode cc pc = .ok (.invokevirtual 47, 3)) (hR : 0 + 1 ≤ R.frames ∧ 8 + (2 + 11) + 0 ≤ R.locals) (hf : k + 0 ≤ R.cells ∧ n + 0 ≤ R.slots) (hcat : (rest.map fun v => v.category).sum ≤ 8) (ho : o = some b) (hg : gc σ b = 3) (kk : Gk p l e R s m args below meth c d A Q nL σ1 k n (pc + 3) lv (.int r :: rest)) : Gk p l e R s m args below meth c d A Q nL σ k n pc lv (.int x1 :: va_rf o :: rest) :=
  r_cV (As := [.int x1]) (rest := rest) (ci := 2) (nA := 1) E hM hd wm_2_218 wm_2_220 wm_p_17 wm_1_2 wm_2_221 rfl ⟨by decide, by decide, by decide +kernel⟩ rfl hR hf rfl (by decide) ho hg rfl hcat kk
set_option maxRecDepth 20000 in
theorem gf_X1_27 {p : Program} {l : Launch} {e : Env} {R : Room} {s : State} {m : MethodId} {args : Array Value} {below : List Frame} {meth : Method} {c : Code} {d : Dp} {A : Nat → Prop} {Q : State → Prop} {nL : Nat} {σ : Sg} {k n pc : Nat} {lv : List (Nat × Value)} {st : List Value} {cc : ByteArray} {ret : Option FieldType} (E : Ev p s m args meth c RX1 cc nL ret d A) {o : Option Nat} {a : Nat} {x : Option Nat} (hd : decode cc pc = .ok (.getfield 27, 3)) (ho : o = some a) (hg : gc σ a = 3) (hx : gp σ 202 a = x) (kk : Gk p l e R s m args below meth c d A Q nL σ k n (pc + 3) lv (va_rf x :: st)) : Gk p l e R s m args below meth c d A Q nL σ k n pc lv (va_rf o :: st) := by
  subst hx
  exact r_get (ci := 2) (j := 2) (T := TX1) (rf := "FrameTalk$Machine") E hd wm_1_132 (fun _ h9 => h9) rfl (by decide) inw_2 (by decide) ho hg rfl kk
set_option maxRecDepth 20000 in
theorem gf_X1_51 {p : Program} {l : Launch} {e : Env} {R : Room} {s : State} {m : MethodId} {args : Array Value} {below : List Frame} {meth : Method} {c : Code} {d : Dp} {A : Nat → Prop} {Q : State → Prop} {nL : Nat} {σ : Sg} {k n pc : Nat} {lv : List (Nat × Value)} {st : List Value} {cc : ByteArray} {ret : Option FieldType} (E : Ev p s m args meth c RX1 cc nL ret d A) {o : Option Nat} {a : Nat} {x : Option Nat} (hd : decode cc pc = .ok (.getfield 51, 3)) (ho : o = some a) (hg : gc σ a = 3) (hx : gp σ 206 a = x) (kk : Gk p l e R s m args below meth c d A Q nL σ k n (pc + 3) lv (va_rf x :: st)) : Gk p l e R s m args below meth c d A Q nL σ k n pc lv (va_rf o :: st) := by
  subst hx
  exact r_get (ci := 2) (j := 6) (T := TX1) (rf := "FrameTalk$Machine") E hd wm_1_136 (fun _ h9 => h9) rfl (by decide) inw_2 (by decide) ho hg rfl kk
set_option maxRecDepth 20000 in
theorem pf_X1_55 {p : Program} {l : Launch} {e : Env} {R : Room} {s : State} {m : MethodId} {args : Array Value} {below : List Frame} {meth : Method} {c : Code} {d : Dp} {A : Nat → Prop} {Q : State → Prop} {nL : Nat} {σ : Sg} {k n pc : Nat} {lv : List (Nat × Value)} {st : List Value} {cc : ByteArray} {ret : Option FieldType} (E : Ev p s m args meth c RX1 cc nL ret d A) {o : Option Nat} {a : Nat} {x : Option Nat} (hd : decode cc pc = .ok (.putfield 55, 3)) (ho : o = some a) (hg : gc σ a = 3) (kk : Gk p l e R s m args below meth c d A Q nL (sp σ 205 a x) k n (pc + 3) lv st) : Gk p l e R s m args below meth c d A Q nL σ k n pc lv (va_rf x :: va_rf o :: st) :=
  r_put (ci := 2) (j := 5) (T := TX1) (rf := "FrameTalk$Machine") (σ' := sp σ 205 a x) (ty := tyX1 5) E hd wm_1_135 (fun _ h9 => h9) rfl (by decide) inw_2 (by decide) tyX1 tyX1_ok nmX1 rfl (tyX1_ok 5 (by decide)) (by cases x <;> rfl) (by cases x <;> rfl) ho hg (by simp [fl]) rfl rfl (fun b hb c => fl_sp hb c) (fun _ _ => rfl) fs_205 kk
set_option maxRecDepth 20000 in
theorem pf_X1_51 {p : Program} {l : Launch} {e : Env} {R : Room} {s : State} {m : MethodId} {args : Array Value} {below : List Frame} {meth : Method} {c : Code} {d : Dp} {A : Nat → Prop} {Q : State → Prop} {nL : Nat} {σ : Sg} {k n pc : Nat} {lv : List (Nat × Value)} {st : List Value} {cc : ByteArray} {ret : Option FieldType} (E : Ev p s m args meth c RX1 cc nL ret d A) {o : Option Nat} {a : Nat} {x : Option Nat} (hd : decode cc pc = .ok (.putfield 51, 3)) (ho : o = some a) (hg : gc σ a = 3) (kk : Gk p l e R s m args below meth c d A Q nL (sp σ 206 a x) k n (pc + 3) lv st) : Gk p l e R s m args below meth c d A Q nL σ k n pc lv (va_rf x :: va_rf o :: st) :=
  r_put (ci := 2) (j := 6) (T := TX1) (rf := "FrameTalk$Machine") (σ' := sp σ 206 a x) (ty := tyX1 6) E hd wm_1_136 (fun _ h9 => h9) rfl (by decide) inw_2 (by decide) tyX1 tyX1_ok nmX1 rfl (tyX1_ok 6 (by decide)) (by cases x <;> rfl) (by cases x <;> rfl) ho hg (by simp [fl]) rfl rfl (fun b hb c => fl_sp hb c) (fun _ _ => rfl) fs_206 kk
set_option maxRecDepth 20000 in
theorem pf_X1_95 {p : Program} {l : Launch} {e : Env} {R : Room} {s : State} {m : MethodId} {args : Array Value} {below : List Frame} {meth : Method} {c : Code} {d : Dp} {A : Nat → Prop} {Q : State → Prop} {nL : Nat} {σ : Sg} {k n pc : Nat} {lv : List (Nat × Value)} {st : List Value} {cc : ByteArray} {ret : Option FieldType} (E : Ev p s m args meth c RX1 cc nL ret d A) {o : Option Nat} {a : Nat} {x : Int32} (hd : decode cc pc = .ok (.putfield 95, 3)) (ho : o = some a) (hg : gc σ a = 3) (kk : Gk p l e R s m args below meth c d A Q nL (si σ 211 a x) k n (pc + 3) lv st) : Gk p l e R s m args below meth c d A Q nL σ k n pc lv (.int x :: va_rf o :: st) :=
  r_put (ci := 2) (j := 11) (T := TX1) (rf := "FrameTalk$Machine") (σ' := si σ 211 a x) (ty := tyX1 11) E hd wm_1_142 (fun _ h9 => h9) rfl (by decide) inw_2 (by decide) tyX1 tyX1_ok nmX1 rfl (tyX1_ok 11 (by decide)) rfl rfl ho hg (by simp [fl]) rfl rfl (fun b hb c => fl_si hb c) (fun _ _ => rfl) fs_211 kk
set_option maxRecDepth 20000 in
theorem gf_X1_71 {p : Program} {l : Launch} {e : Env} {R : Room} {s : State} {m : MethodId} {args : Array Value} {below : List Frame} {meth : Method} {c : Code} {d : Dp} {A : Nat → Prop} {Q : State → Prop} {nL : Nat} {σ : Sg} {k n pc : Nat} {lv : List (Nat × Value)} {st : List Value} {cc : ByteArray} {ret : Option FieldType} (E : Ev p s m args meth c RX1 cc nL ret d A) {o : Option Nat} {a : Nat} {x : Int32} (hd : decode cc pc = .ok (.getfield 71, 3)) (ho : o = some a) (hg : gc σ a = 3) (hx : gi σ 210 a = x) (kk : Gk p l e R s m args below meth c d A Q nL σ k n (pc + 3) lv (.int x :: st)) : Gk p l e R s m args below meth c d A Q nL σ k n pc lv (va_rf o :: st) := by
  subst hx
  exact r_get (ci := 2) (j := 10) (T := TX1) (rf := "FrameTalk$Machine") E hd wm_1_140 (fun _ h9 => h9) rfl (by decide) inw_2 (by decide) ho hg rfl kk
set_option maxRecDepth 20000 in
theorem gf_X1_68 {p : Program} {l : Launch} {e : Env} {R : Room} {s : State} {m : MethodId} {args : Array Value} {below : List Frame} {meth : Method} {c : Code} {d : Dp} {A : Nat → Prop} {Q : State → Prop} {nL : Nat} {σ : Sg} {k n pc : Nat} {lv : List (Nat × Value)} {st : List Value} {cc : ByteArray} {ret : Option FieldType} (E : Ev p s m args meth c RX1 cc nL ret d A) {o : Option Nat} {a : Nat} {x : Int32} (hd : decode cc pc = .ok (.getfield 68, 3)) (ho : o = some a) (hg : gc σ a = 3) (hx : gi σ 208 a = x) (kk : Gk p l e R s m args below meth c d A Q nL σ k n (pc + 3) lv (.int x :: st)) : Gk p l e R s m args below meth c d A Q nL σ k n pc lv (va_rf o :: st) := by
  subst hx
  exact r_get (ci := 2) (j := 8) (T := TX1) (rf := "FrameTalk$Machine") E hd wm_1_138 (fun _ h9 => h9) rfl (by decide) inw_2 (by decide) ho hg rfl kk
set_option maxRecDepth 20000 in
theorem pf_X1_71 {p : Program} {l : Launch} {e : Env} {R : Room} {s : State} {m : MethodId} {args : Array Value} {below : List Frame} {meth : Method} {c : Code} {d : Dp} {A : Nat → Prop} {Q : State → Prop} {nL : Nat} {σ : Sg} {k n pc : Nat} {lv : List (Nat × Value)} {st : List Value} {cc : ByteArray} {ret : Option FieldType} (E : Ev p s m args meth c RX1 cc nL ret d A) {o : Option Nat} {a : Nat} {x : Int32} (hd : decode cc pc = .ok (.putfield 71, 3)) (ho : o = some a) (hg : gc σ a = 3) (kk : Gk p l e R s m args below meth c d A Q nL (si σ 210 a x) k n (pc + 3) lv st) : Gk p l e R s m args below meth c d A Q nL σ k n pc lv (.int x :: va_rf o :: st) :=
  r_put (ci := 2) (j := 10) (T := TX1) (rf := "FrameTalk$Machine") (σ' := si σ 210 a x) (ty := tyX1 10) E hd wm_1_140 (fun _ h9 => h9) rfl (by decide) inw_2 (by decide) tyX1 tyX1_ok nmX1 rfl (tyX1_ok 10 (by decide)) rfl rfl ho hg (by simp [fl]) rfl rfl (fun b hb c => fl_si hb c) (fun _ _ => rfl) fs_210 kk
set_option maxRecDepth 20000 in
theorem gf_X1_40 {p : Program} {l : Launch} {e : Env} {R : Room} {s : State} {m : MethodId} {args : Array Value} {below : List Frame} {meth : Method} {c : Code} {d : Dp} {A : Nat → Prop} {Q : State → Prop} {nL : Nat} {σ : Sg} {k n pc : Nat} {lv : List (Nat × Value)} {st : List Value} {cc : ByteArray} {ret : Option FieldType} (E : Ev p s m args meth c RX1 cc nL ret d A) {o : Option Nat} {a : Nat} {x : Option Nat} (hd : decode cc pc = .ok (.getfield 40, 3)) (ho : o = some a) (hg : gc σ a = 3) (hx : gp σ 204 a = x) (kk : Gk p l e R s m args below meth c d A Q nL σ k n (pc + 3) lv (va_rf x :: st)) : Gk p l e R s m args below meth c d A Q nL σ k n pc lv (va_rf o :: st) := by
  subst hx
  exact r_get (ci := 2) (j := 4) (T := TX1) (rf := "FrameTalk$Machine") E hd wm_1_134 (fun _ h9 => h9) rfl (by decide) inw_2 (by decide) ho hg rfl kk
set_option maxRecDepth 20000 in
theorem gf_X1_92 {p : Program} {l : Launch} {e : Env} {R : Room} {s : State} {m : MethodId} {args : Array Value} {below : List Frame} {meth : Method} {c : Code} {d : Dp} {A : Nat → Prop} {Q : State → Prop} {nL : Nat} {σ : Sg} {k n pc : Nat} {lv : List (Nat × Value)} {st : List Value} {cc : ByteArray} {ret : Option FieldType} (E : Ev p s m args meth c RX1 cc nL ret d A) {o : Option Nat} {a : Nat} {x : Int32} (hd : decode cc pc = .ok (.getfield 92, 3)) (ho : o = some a) (hg : gc σ a = 2) (hx : gi σ 101 a = x) (kk : Gk p l e R s m args below meth c d A Q nL σ k n (pc + 3) lv (.int x :: st)) : Gk p l e R s m args below meth c d A Q nL σ k n pc lv (va_rf o :: st) := by
  subst hx
  exact r_get (ci := 1) (j := 1) (T := TX0) (rf := "FrameTalk$Frame") E hd wm_1_92 (fun _ h9 => h9) rfl (by decide) inw_1 (by decide) ho hg rfl kk
set_option maxRecDepth 20000 in
theorem cl_X1_125 {p : Program} {l : Launch} {e : Env} {R : Room} {s : State} {m : MethodId} {args : Array Value} {below : List Frame} {meth : Method} {c : Code} {d : Dp} {A : Nat → Prop} {Q : State → Prop} {nL : Nat} {σ : Sg} {k n pc : Nat} {lv : List (Nat × Value)} {cc : ByteArray} {ret : Option FieldType} (E : Ev p s m args meth c RX1 cc nL ret d A) {o : Option Nat} {b : Nat} {k1 n1 : Nat}  {r : Option Nat} {rest : List Value} {σ1 : Sg} (hM : Mt l d yX0_within cX0_within 1 (some (.object "FrameTalk$Frame")) 2 42 σ [.ref b] (some (va_rf r)) σ1 k1 n1) (hd : decode cc pc = .ok (.invokevirtual 125, 3)) (hR : 2 + 1 ≤ R.frames ∧ 8 + (1 + 11) + 42 ≤ R.locals) (hf : k + k1 ≤ R.cells ∧ n + n1 ≤ R.slots) (hcat : (rest.map fun v => v.category).sum ≤ 8) (ho : o = some b) (hg : gc σ b = 2) (kk : Gk p l e R s m args below meth c d A Q nL σ1 (k + k1) (n + n1) (pc + 3) lv (va_rf r :: rest)) : Gk p l e R s m args below meth c d A Q nL σ k n pc lv (va_rf o :: rest) :=
  r_cV (As := []) (rest := rest) (ci := 1) (nA := 0) E hM hd wm_2_111 wm_2_112 wm_2_113 wm_1_8 wm_2_114 rfl ⟨by decide, by decide, by decide +kernel⟩ rfl hR hf rfl (by decide) ho hg rfl hcat kk
set_option maxRecDepth 20000 in
theorem cl_X1_81 {p : Program} {l : Launch} {e : Env} {R : Room} {s : State} {m : MethodId} {args : Array Value} {below : List Frame} {meth : Method} {c : Code} {d : Dp} {A : Nat → Prop} {Q : State → Prop} {nL : Nat} {σ : Sg} {k n pc : Nat} {lv : List (Nat × Value)} {cc : ByteArray} {ret : Option FieldType} (E : Ev p s m args meth c RX1 cc nL ret d A) {o : Option Nat} {b : Nat} {x1 : Option Nat}  {rest : List Value} {σ1 : Sg} (hM : Mt l d yX0_begin cX0_begin 2 none 0 0 σ [.ref b, va_rf x1] none σ1 0 0) (hd : decode cc pc = .ok (.invokevirtual 81, 3)) (hR : 0 + 1 ≤ R.frames ∧ 8 + (2 + 11) + 0 ≤ R.locals) (hf : k + 0 ≤ R.cells ∧ n + 0 ≤ R.slots) (hcat : (rest.map fun v => v.category).sum ≤ 8) (ho : o = some b) (hg : gc σ b = 2) (kk : Gk p l e R s m args below meth c d A Q nL σ1 k n (pc + 3) lv rest) : Gk p l e R s m args below meth c d A Q nL σ k n pc lv (va_rf x1 :: va_rf o :: rest) :=
  r_cV (As := [va_rf x1]) (rest := rest) (ci := 1) (nA := 1) E hM hd wm_2_99 wm_2_100 wm_2_101 wm_1_8 wm_2_102 rfl ⟨by decide, by decide, by decide +kernel⟩ rfl hR hf rfl (by decide) ho hg rfl hcat kk
set_option maxRecDepth 20000 in
theorem inw_4 : ∀ w ∈ u_ws RX3 TX3 6, w ∈ wsL_law := by
  intro w hw
  obtain ⟨i, hi, rfl⟩ := List.mem_map.mp hw
  have hi := List.mem_range.mp hi
  match i, hi with
  | 0, _ => exact wm_1_208
  | 1, _ => exact wm_1_210
  | 2, _ => exact wm_1_212
  | 3, _ => exact wm_1_214
  | 4, _ => exact wm_1_216
  | 5, _ => exact wm_1_218
  | i + 6, hi => exact absurd hi (by omega)
set_option maxRecDepth 20000 in
theorem gf_X1_120 {p : Program} {l : Launch} {e : Env} {R : Room} {s : State} {m : MethodId} {args : Array Value} {below : List Frame} {meth : Method} {c : Code} {d : Dp} {A : Nat → Prop} {Q : State → Prop} {nL : Nat} {σ : Sg} {k n pc : Nat} {lv : List (Nat × Value)} {st : List Value} {cc : ByteArray} {ret : Option FieldType} (E : Ev p s m args meth c RX1 cc nL ret d A) {o : Option Nat} {a : Nat} {x : Int32} (hd : decode cc pc = .ok (.getfield 120, 3)) (ho : o = some a) (hg : gc σ a = 5) (hx : gi σ 400 a = x) (kk : Gk p l e R s m args below meth c d A Q nL σ k n (pc + 3) lv (.int x :: st)) : Gk p l e R s m args below meth c d A Q nL σ k n pc lv (va_rf o :: st) := by
  subst hx
  exact r_get (ci := 4) (j := 0) (T := TX3) (rf := "FrameTalk$Node") E hd wm_1_200 (fun _ h9 => h9) rfl (by decide) inw_4 (by decide) ho hg rfl kk
set_option maxRecDepth 20000 in
theorem cl_X1_85 {p : Program} {l : Launch} {e : Env} {R : Room} {s : State} {m : MethodId} {args : Array Value} {below : List Frame} {meth : Method} {c : Code} {d : Dp} {A : Nat → Prop} {Q : State → Prop} {nL : Nat} {σ : Sg} {k n pc : Nat} {lv : List (Nat × Value)} {cc : ByteArray} {ret : Option FieldType} (E : Ev p s m args meth c RX1 cc nL ret d A) {o : Option Nat} {b : Nat} {x1 : Int32} {x2 : Int32} {r : Option Nat} {rest : List Value} {σ1 : Sg} (hM : Mt l d yX1_failAt cX1_failAt 3 (some (.object "FrameTalk$Thing")) 0 0 σ [.ref b, .int x1, .int x2] (some (va_rf r)) σ1 0 0) (hd : decode cc pc = .ok (.invokevirtual 85, 3)) (hR : 0 + 1 ≤ R.frames ∧ 8 + (3 + 11) + 0 ≤ R.locals) (hf : k + 0 ≤ R.cells ∧ n + 0 ≤ R.slots) (hcat : (rest.map fun v => v.category).sum ≤ 8) (ho : o = some b) (hg : gc σ b = 3) (kk : Gk p l e R s m args below meth c d A Q nL σ1 k n (pc + 3) lv (va_rf r :: rest)) : Gk p l e R s m args below meth c d A Q nL σ k n pc lv (.int x2 :: .int x1 :: va_rf o :: rest) :=
  r_cV (As := [.int x1, .int x2]) (rest := rest) (ci := 2) (nA := 2) E hM hd wm_2_103 wm_2_105 wm_p_5 wm_1_2 wm_2_106 rfl ⟨by decide, by decide, by decide +kernel⟩ rfl hR hf rfl (by decide) ho hg rfl hcat kk
set_option maxRecDepth 20000 in
theorem pf_X1_74 {p : Program} {l : Launch} {e : Env} {R : Room} {s : State} {m : MethodId} {args : Array Value} {below : List Frame} {meth : Method} {c : Code} {d : Dp} {A : Nat → Prop} {Q : State → Prop} {nL : Nat} {σ : Sg} {k n pc : Nat} {lv : List (Nat × Value)} {st : List Value} {cc : ByteArray} {ret : Option FieldType} (E : Ev p s m args meth c RX1 cc nL ret d A) {o : Option Nat} {a : Nat} {x : Int32} (hd : decode cc pc = .ok (.putfield 74, 3)) (ho : o = some a) (hg : gc σ a = 3) (hz : narrow .boolean (.int x) = .int x ∧ fits .boolean (.int x) = true) (kk : Gk p l e R s m args below meth c d A Q nL (si σ 209 a x) k n (pc + 3) lv st) : Gk p l e R s m args below meth c d A Q nL σ k n pc lv (.int x :: va_rf o :: st) :=
  r_put (ci := 2) (j := 9) (T := TX1) (rf := "FrameTalk$Machine") (σ' := si σ 209 a x) (ty := tyX1 9) E hd wm_1_139 (fun _ h9 => h9) rfl (by decide) inw_2 (by decide) tyX1 tyX1_ok nmX1 rfl (tyX1_ok 9 (by decide)) hz.1 hz.2 ho hg (by simp [fl]) rfl rfl (fun b hb c => fl_si hb c) (fun _ _ => rfl) fs_209 kk
set_option maxRecDepth 20000 in
theorem gf_X1_59 {p : Program} {l : Launch} {e : Env} {R : Room} {s : State} {m : MethodId} {args : Array Value} {below : List Frame} {meth : Method} {c : Code} {d : Dp} {A : Nat → Prop} {Q : State → Prop} {nL : Nat} {σ : Sg} {k n pc : Nat} {lv : List (Nat × Value)} {st : List Value} {cc : ByteArray} {ret : Option FieldType} (E : Ev p s m args meth c RX1 cc nL ret d A) {o : Option Nat} {a : Nat} {x : Int32} (hd : decode cc pc = .ok (.getfield 59, 3)) (ho : o = some a) (hg : gc σ a = 3) (hx : gi σ 207 a = x) (kk : Gk p l e R s m args below meth c d A Q nL σ k n (pc + 3) lv (.int x :: st)) : Gk p l e R s m args below meth c d A Q nL σ k n pc lv (va_rf o :: st) := by
  subst hx
  exact r_get (ci := 2) (j := 7) (T := TX1) (rf := "FrameTalk$Machine") E hd wm_1_137 (fun _ h9 => h9) rfl (by decide) inw_2 (by decide) ho hg rfl kk
set_option maxRecDepth 20000 in
theorem pf_X1_68 {p : Program} {l : Launch} {e : Env} {R : Room} {s : State} {m : MethodId} {args : Array Value} {below : List Frame} {meth : Method} {c : Code} {d : Dp} {A : Nat → Prop} {Q : State → Prop} {nL : Nat} {σ : Sg} {k n pc : Nat} {lv : List (Nat × Value)} {st : List Value} {cc : ByteArray} {ret : Option FieldType} (E : Ev p s m args meth c RX1 cc nL ret d A) {o : Option Nat} {a : Nat} {x : Int32} (hd : decode cc pc = .ok (.putfield 68, 3)) (ho : o = some a) (hg : gc σ a = 3) (kk : Gk p l e R s m args below meth c d A Q nL (si σ 208 a x) k n (pc + 3) lv st) : Gk p l e R s m args below meth c d A Q nL σ k n pc lv (.int x :: va_rf o :: st) :=
  r_put (ci := 2) (j := 8) (T := TX1) (rf := "FrameTalk$Machine") (σ' := si σ 208 a x) (ty := tyX1 8) E hd wm_1_138 (fun _ h9 => h9) rfl (by decide) inw_2 (by decide) tyX1 tyX1_ok nmX1 rfl (tyX1_ok 8 (by decide)) rfl rfl ho hg (by simp [fl]) rfl rfl (fun b hb c => fl_si hb c) (fun _ _ => rfl) fs_208 kk
set_option maxRecDepth 20000 in
theorem cl_X1_78 {p : Program} {l : Launch} {e : Env} {R : Room} {s : State} {m : MethodId} {args : Array Value} {below : List Frame} {meth : Method} {c : Code} {d : Dp} {A : Nat → Prop} {Q : State → Prop} {nL : Nat} {σ : Sg} {k n pc : Nat} {lv : List (Nat × Value)} {cc : ByteArray} {ret : Option FieldType} (E : Ev p s m args meth c RX1 cc nL ret d A) {o : Option Nat} {b : Nat}   {rest : List Value} {σ1 : Sg} (hM : Mt l d yX1_clearFault cX1_clearFault 1 none 0 0 σ [.ref b] none σ1 0 0) (hd : decode cc pc = .ok (.invokevirtual 78, 3)) (hR : 0 + 1 ≤ R.frames ∧ 8 + (1 + 11) + 0 ≤ R.locals) (hf : k + 0 ≤ R.cells ∧ n + 0 ≤ R.slots) (hcat : (rest.map fun v => v.category).sum ≤ 8) (ho : o = some b) (hg : gc σ b = 3) (kk : Gk p l e R s m args below meth c d A Q nL σ1 k n (pc + 3) lv rest) : Gk p l e R s m args below meth c d A Q nL σ k n pc lv (va_rf o :: rest) :=
  r_cV (As := []) (rest := rest) (ci := 2) (nA := 0) E hM hd wm_2_95 wm_2_97 wm_p_4 wm_1_2 wm_2_98 rfl ⟨by decide, by decide, by decide +kernel⟩ rfl hR hf rfl (by decide) ho hg rfl hcat kk
set_option maxRecDepth 20000 in
theorem cl_X1_89 {p : Program} {l : Launch} {e : Env} {R : Room} {s : State} {m : MethodId} {args : Array Value} {below : List Frame} {meth : Method} {c : Code} {d : Dp} {A : Nat → Prop} {Q : State → Prop} {nL : Nat} {σ : Sg} {k n pc : Nat} {lv : List (Nat × Value)} {cc : ByteArray} {ret : Option FieldType} (E : Ev p s m args meth c RX1 cc nL ret d A) {o : Option Nat} {b : Nat} {k1 n1 : Nat} {x1 : Option Nat}  {rest : List Value} {σ1 : Sg} (hM : Mt l d yX1_open cX1_open 2 none 3 62 σ [.ref b, va_rf x1] none σ1 k1 n1) (hd : decode cc pc = .ok (.invokevirtual 89, 3)) (hR : 3 + 1 ≤ R.frames ∧ 8 + (2 + 11) + 62 ≤ R.locals) (hf : k + k1 ≤ R.cells ∧ n + n1 ≤ R.slots) (hcat : (rest.map fun v => v.category).sum ≤ 8) (ho : o = some b) (hg : gc σ b = 3) (kk : Gk p l e R s m args below meth c d A Q nL σ1 (k + k1) (n + n1) (pc + 3) lv rest) : Gk p l e R s m args below meth c d A Q nL σ k n pc lv (va_rf x1 :: va_rf o :: rest) :=
  r_cV (As := [va_rf x1]) (rest := rest) (ci := 2) (nA := 1) E hM hd wm_2_107 wm_2_109 wm_p_6 wm_1_2 wm_2_110 rfl ⟨by decide, by decide, by decide +kernel⟩ rfl hR hf rfl (by decide) ho hg rfl hcat kk
set_option maxRecDepth 20000 in
theorem gf_X1_74 {p : Program} {l : Launch} {e : Env} {R : Room} {s : State} {m : MethodId} {args : Array Value} {below : List Frame} {meth : Method} {c : Code} {d : Dp} {A : Nat → Prop} {Q : State → Prop} {nL : Nat} {σ : Sg} {k n pc : Nat} {lv : List (Nat × Value)} {st : List Value} {cc : ByteArray} {ret : Option FieldType} (E : Ev p s m args meth c RX1 cc nL ret d A) {o : Option Nat} {a : Nat} {x : Int32} (hd : decode cc pc = .ok (.getfield 74, 3)) (ho : o = some a) (hg : gc σ a = 3) (hx : gi σ 209 a = x) (kk : Gk p l e R s m args below meth c d A Q nL σ k n (pc + 3) lv (.int x :: st)) : Gk p l e R s m args below meth c d A Q nL σ k n pc lv (va_rf o :: st) := by
  subst hx
  exact r_get (ci := 2) (j := 9) (T := TX1) (rf := "FrameTalk$Machine") E hd wm_1_139 (fun _ h9 => h9) rfl (by decide) inw_2 (by decide) ho hg rfl kk
set_option maxRecDepth 20000 in
theorem gf_X3_11 {p : Program} {l : Launch} {e : Env} {R : Room} {s : State} {m : MethodId} {args : Array Value} {below : List Frame} {meth : Method} {c : Code} {d : Dp} {A : Nat → Prop} {Q : State → Prop} {nL : Nat} {σ : Sg} {k n pc : Nat} {lv : List (Nat × Value)} {st : List Value} {cc : ByteArray} {ret : Option FieldType} (E : Ev p s m args meth c RX3 cc nL ret d A) {o : Option Nat} {a : Nat} {x : Int32} (hd : decode cc pc = .ok (.getfield 11, 3)) (ho : o = some a) (hg : gc σ a = 5) (hx : gi σ 403 a = x) (kk : Gk p l e R s m args below meth c d A Q nL σ k n (pc + 3) lv (.int x :: st)) : Gk p l e R s m args below meth c d A Q nL σ k n pc lv (va_rf o :: st) := by
  subst hx
  exact r_get (ci := 4) (j := 3) (T := TX3) (rf := "FrameTalk$Node") E hd wm_1_205 (fun _ h9 => h9) rfl (by decide) inw_4 (by decide) ho hg rfl kk
set_option maxRecDepth 20000 in
theorem gf_X3_15 {p : Program} {l : Launch} {e : Env} {R : Room} {s : State} {m : MethodId} {args : Array Value} {below : List Frame} {meth : Method} {c : Code} {d : Dp} {A : Nat → Prop} {Q : State → Prop} {nL : Nat} {σ : Sg} {k n pc : Nat} {lv : List (Nat × Value)} {st : List Value} {cc : ByteArray} {ret : Option FieldType} (E : Ev p s m args meth c RX3 cc nL ret d A) {o : Option Nat} {a : Nat} {x : Int32} (hd : decode cc pc = .ok (.getfield 15, 3)) (ho : o = some a) (hg : gc σ a = 5) (hx : gi σ 404 a = x) (kk : Gk p l e R s m args below meth c d A Q nL σ k n (pc + 3) lv (.int x :: st)) : Gk p l e R s m args below meth c d A Q nL σ k n pc lv (va_rf o :: st) := by
  subst hx
  exact r_get (ci := 4) (j := 4) (T := TX3) (rf := "FrameTalk$Node") E hd wm_1_206 (fun _ h9 => h9) rfl (by decide) inw_4 (by decide) ho hg rfl kk
set_option maxRecDepth 20000 in
theorem gf_X3_18 {p : Program} {l : Launch} {e : Env} {R : Room} {s : State} {m : MethodId} {args : Array Value} {below : List Frame} {meth : Method} {c : Code} {d : Dp} {A : Nat → Prop} {Q : State → Prop} {nL : Nat} {σ : Sg} {k n pc : Nat} {lv : List (Nat × Value)} {st : List Value} {cc : ByteArray} {ret : Option FieldType} (E : Ev p s m args meth c RX3 cc nL ret d A) {o : Option Nat} {a : Nat} {x : Int32} (hd : decode cc pc = .ok (.getfield 18, 3)) (ho : o = some a) (hg : gc σ a = 5) (hx : gi σ 405 a = x) (kk : Gk p l e R s m args below meth c d A Q nL σ k n (pc + 3) lv (.int x :: st)) : Gk p l e R s m args below meth c d A Q nL σ k n pc lv (va_rf o :: st) := by
  subst hx
  exact r_get (ci := 4) (j := 5) (T := TX3) (rf := "FrameTalk$Node") E hd wm_1_207 (fun _ h9 => h9) rfl (by decide) inw_4 (by decide) ho hg rfl kk
set_option maxRecDepth 20000 in
theorem gf_X1_139 {p : Program} {l : Launch} {e : Env} {R : Room} {s : State} {m : MethodId} {args : Array Value} {below : List Frame} {meth : Method} {c : Code} {d : Dp} {A : Nat → Prop} {Q : State → Prop} {nL : Nat} {σ : Sg} {k n pc : Nat} {lv : List (Nat × Value)} {st : List Value} {cc : ByteArray} {ret : Option FieldType} (E : Ev p s m args meth c RX1 cc nL ret d A) {o : Option Nat} {a : Nat} {x : Option Nat} (hd : decode cc pc = .ok (.getfield 139, 3)) (ho : o = some a) (hg : gc σ a = 2) (hx : gp σ 103 a = x) (kk : Gk p l e R s m args below meth c d A Q nL σ k n (pc + 3) lv (va_rf x :: st)) : Gk p l e R s m args below meth c d A Q nL σ k n pc lv (va_rf o :: st) := by
  subst hx
  exact r_get (ci := 1) (j := 3) (T := TX0) (rf := "FrameTalk$Frame") E hd wm_1_95 (fun _ h9 => h9) rfl (by decide) inw_1 (by decide) ho hg rfl kk
set_option maxRecDepth 20000 in
theorem gf_X1_151 {p : Program} {l : Launch} {e : Env} {R : Room} {s : State} {m : MethodId} {args : Array Value} {below : List Frame} {meth : Method} {c : Code} {d : Dp} {A : Nat → Prop} {Q : State → Prop} {nL : Nat} {σ : Sg} {k n pc : Nat} {lv : List (Nat × Value)} {st : List Value} {cc : ByteArray} {ret : Option FieldType} (E : Ev p s m args meth c RX1 cc nL ret d A) {o : Option Nat} {a : Nat} {x : Int32} (hd : decode cc pc = .ok (.getfield 151, 3)) (ho : o = some a) (hg : gc σ a = 5) (hx : gi σ 401 a = x) (kk : Gk p l e R s m args below meth c d A Q nL σ k n (pc + 3) lv (.int x :: st)) : Gk p l e R s m args below meth c d A Q nL σ k n pc lv (va_rf o :: st) := by
  subst hx
  exact r_get (ci := 4) (j := 1) (T := TX3) (rf := "FrameTalk$Node") E hd wm_1_202 (fun _ h9 => h9) rfl (by decide) inw_4 (by decide) ho hg rfl kk
set_option maxRecDepth 20000 in
theorem gf_X1_136 {p : Program} {l : Launch} {e : Env} {R : Room} {s : State} {m : MethodId} {args : Array Value} {below : List Frame} {meth : Method} {c : Code} {d : Dp} {A : Nat → Prop} {Q : State → Prop} {nL : Nat} {σ : Sg} {k n pc : Nat} {lv : List (Nat × Value)} {st : List Value} {cc : ByteArray} {ret : Option FieldType} (E : Ev p s m args meth c RX1 cc nL ret d A) {o : Option Nat} {a : Nat} {x : Int32} (hd : decode cc pc = .ok (.getfield 136, 3)) (ho : o = some a) (hg : gc σ a = 2) (hx : gi σ 104 a = x) (kk : Gk p l e R s m args below meth c d A Q nL σ k n (pc + 3) lv (.int x :: st)) : Gk p l e R s m args below meth c d A Q nL σ k n pc lv (va_rf o :: st) := by
  subst hx
  exact r_get (ci := 1) (j := 4) (T := TX0) (rf := "FrameTalk$Frame") E hd wm_1_97 (fun _ h9 => h9) rfl (by decide) inw_1 (by decide) ho hg rfl kk
set_option maxRecDepth 20000 in
theorem cl_X1_143 {p : Program} {l : Launch} {e : Env} {R : Room} {s : State} {m : MethodId} {args : Array Value} {below : List Frame} {meth : Method} {c : Code} {d : Dp} {A : Nat → Prop} {Q : State → Prop} {nL : Nat} {σ : Sg} {k n pc : Nat} {lv : List (Nat × Value)} {cc : ByteArray} {ret : Option FieldType} (E : Ev p s m args meth c RX1 cc nL ret d A) {o : Option Nat} {b : Nat} {x1 : Int32} {r : Int32} {rest : List Value} {σ1 : Sg} (hM : Mt l d yX3_get cX3_get 2 (some .int) 0 0 σ [.ref b, .int x1] (some (.int r)) σ1 0 0) (hd : decode cc pc = .ok (.invokevirtual 143, 3)) (hR : 0 + 1 ≤ R.frames ∧ 8 + (2 + 11) + 0 ≤ R.locals) (hf : k + 0 ≤ R.cells ∧ n + 0 ≤ R.slots) (hcat : (rest.map fun v => v.category).sum ≤ 8) (ho : o = some b) (hg : gc σ b = 5) (kk : Gk p l e R s m args below meth c d A Q nL σ1 k n (pc + 3) lv (.int r :: rest)) : Gk p l e R s m args below meth c d A Q nL σ k n pc lv (.int x1 :: va_rf o :: rest) :=
  r_cV (As := [.int x1]) (rest := rest) (ci := 4) (nA := 1) E hM hd wm_2_134 wm_2_135 wm_2_136 wm_1_10 wm_2_137 rfl ⟨by decide, by decide, by decide +kernel⟩ rfl hR hf rfl (by decide) ho hg rfl hcat kk
set_option maxRecDepth 20000 in
theorem gf_X1_95 {p : Program} {l : Launch} {e : Env} {R : Room} {s : State} {m : MethodId} {args : Array Value} {below : List Frame} {meth : Method} {c : Code} {d : Dp} {A : Nat → Prop} {Q : State → Prop} {nL : Nat} {σ : Sg} {k n pc : Nat} {lv : List (Nat × Value)} {st : List Value} {cc : ByteArray} {ret : Option FieldType} (E : Ev p s m args meth c RX1 cc nL ret d A) {o : Option Nat} {a : Nat} {x : Int32} (hd : decode cc pc = .ok (.getfield 95, 3)) (ho : o = some a) (hg : gc σ a = 3) (hx : gi σ 211 a = x) (kk : Gk p l e R s m args below meth c d A Q nL σ k n (pc + 3) lv (.int x :: st)) : Gk p l e R s m args below meth c d A Q nL σ k n pc lv (va_rf o :: st) := by
  subst hx
  exact r_get (ci := 2) (j := 11) (T := TX1) (rf := "FrameTalk$Machine") E hd wm_1_142 (fun _ h9 => h9) rfl (by decide) inw_2 (by decide) ho hg rfl kk
set_option maxRecDepth 20000 in
theorem inw_6 : ∀ w ∈ u_ws RX5 TX5 7, w ∈ wsL_law := by
  intro w hw
  obtain ⟨i, hi, rfl⟩ := List.mem_map.mp hw
  have hi := List.mem_range.mp hi
  match i, hi with
  | 0, _ => exact wm_2_165
  | 1, _ => exact wm_2_167
  | 2, _ => exact wm_2_169
  | 3, _ => exact wm_2_171
  | 4, _ => exact wm_2_173
  | 5, _ => exact wm_2_175
  | 6, _ => exact wm_2_177
  | i + 7, hi => exact absurd hi (by omega)
set_option maxRecDepth 20000 in
theorem pf_X5_9 {p : Program} {l : Launch} {e : Env} {R : Room} {s : State} {m : MethodId} {args : Array Value} {below : List Frame} {meth : Method} {c : Code} {d : Dp} {A : Nat → Prop} {Q : State → Prop} {nL : Nat} {σ : Sg} {k n pc : Nat} {lv : List (Nat × Value)} {st : List Value} {cc : ByteArray} {ret : Option FieldType} (E : Ev p s m args meth c RX5 cc nL ret d A) {o : Option Nat} {a : Nat} {x : Int32} (hini : meth.name = "<init>") (hd : decode cc pc = .ok (.putfield 9, 3)) (ho : o = some a) (hg : gc σ a = 7) (kk : Gk p l e R s m args below meth c d A Q nL (si σ 600 a x) k n (pc + 3) lv st) : Gk p l e R s m args below meth c d A Q nL σ k n pc lv (.int x :: va_rf o :: st) :=
  r_putF (ci := 6) (j := 0) (T := TX5) (rf := "FrameTalk$Thing") (σ' := si σ 600 a x) (ty := tyX5 0) E hd wm_2_148 (fun _ h9 => h9) rfl (by decide) inw_6 (by decide) tyX5 tyX5_ok nmX5 rfl hini rfl (tyX5_ok 0 (by decide)) rfl rfl ho hg (by simp [fl]) rfl rfl (fun b hb c => fl_si hb c) (fun _ _ => rfl) fs_600 kk
set_option maxRecDepth 20000 in
theorem pf_X5_15 {p : Program} {l : Launch} {e : Env} {R : Room} {s : State} {m : MethodId} {args : Array Value} {below : List Frame} {meth : Method} {c : Code} {d : Dp} {A : Nat → Prop} {Q : State → Prop} {nL : Nat} {σ : Sg} {k n pc : Nat} {lv : List (Nat × Value)} {st : List Value} {cc : ByteArray} {ret : Option FieldType} (E : Ev p s m args meth c RX5 cc nL ret d A) {o : Option Nat} {a : Nat} {x : Int32} (hini : meth.name = "<init>") (hd : decode cc pc = .ok (.putfield 15, 3)) (ho : o = some a) (hg : gc σ a = 7) (kk : Gk p l e R s m args below meth c d A Q nL (si σ 601 a x) k n (pc + 3) lv st) : Gk p l e R s m args below meth c d A Q nL σ k n pc lv (.int x :: va_rf o :: st) :=
  r_putF (ci := 6) (j := 1) (T := TX5) (rf := "FrameTalk$Thing") (σ' := si σ 601 a x) (ty := tyX5 1) E hd wm_2_149 (fun _ h9 => h9) rfl (by decide) inw_6 (by decide) tyX5 tyX5_ok nmX5 rfl hini rfl (tyX5_ok 1 (by decide)) rfl rfl ho hg (by simp [fl]) rfl rfl (fun b hb c => fl_si hb c) (fun _ _ => rfl) fs_601 kk
set_option maxRecDepth 20000 in
theorem nf_6 {σ : Sg} : ∀ j, j < 7 → defaultValue (tyX5 j) = vp_V (fl 6 (nw σ 7) (hs σ)) j := by
  intro j hj
  match j, hj with
  | 0, _ => simp [tyX5, defaultValue, vp_V, fl, gi, gj, gp, nw, uc, va_rf]
  | 1, _ => simp [tyX5, defaultValue, vp_V, fl, gi, gj, gp, nw, uc, va_rf]
  | 2, _ => simp [tyX5, defaultValue, vp_V, fl, gi, gj, gp, nw, uc, va_rf]
  | 3, _ => simp [tyX5, defaultValue, vp_V, fl, gi, gj, gp, nw, uc, va_rf]
  | 4, _ => simp [tyX5, defaultValue, vp_V, fl, gi, gj, gp, nw, uc, va_rf]
  | 5, _ => simp [tyX5, defaultValue, vp_V, fl, gi, gj, gp, nw, uc, va_rf]
  | 6, _ => simp [tyX5, defaultValue, vp_V, fl, gi, gj, gp, nw, uc, va_rf]
  | j + 7, hj => exact absurd hj (by omega)
set_option maxRecDepth 20000 in
theorem nw_X2_7 {p : Program} {l : Launch} {e : Env} {R : Room} {s : State} {m : MethodId} {args : Array Value} {below : List Frame} {meth : Method} {c : Code} {d : Dp} {A : Nat → Prop} {Q : State → Prop} {nL : Nat} {σ : Sg} {k n pc : Nat} {lv : List (Nat × Value)} {st : List Value} {cc : ByteArray} {ret : Option FieldType} (E : Ev p s m args meth c RX2 cc nL ret d A) (hd : decode cc pc = .ok (.new 7, 3)) (hR : k + 1 ≤ R.cells ∧ n + 7 ≤ R.slots) (kk : Gk p l e R s m args below meth c d A Q nL (nw σ 7) (k + 1) (n + 7) (pc + 3) lv (va_rf (some (hs σ)) :: st)) : Gk p l e R s m args below meth c d A Q nL σ k n pc lv st :=
  r_new (ci := 6) (C := RX5) (T := TX5) (N := 7) E hd wm_2_142 wm_2_143 wm_1_17 rfl (by decide) inw_6 tyX5 tyX5_ok (fun j hj => nf_6 j hj) hR kk
set_option maxRecDepth 20000 in
theorem gf_X2_9 {p : Program} {l : Launch} {e : Env} {R : Room} {s : State} {m : MethodId} {args : Array Value} {below : List Frame} {meth : Method} {c : Code} {d : Dp} {A : Nat → Prop} {Q : State → Prop} {nL : Nat} {σ : Sg} {k n pc : Nat} {lv : List (Nat × Value)} {st : List Value} {cc : ByteArray} {ret : Option FieldType} (E : Ev p s m args meth c RX2 cc nL ret d A) {o : Option Nat} {a : Nat} {x : Int32} (hd : decode cc pc = .ok (.getfield 9, 3)) (ho : o = some a) (hg : gc σ a = 4) (hx : gi σ 300 a = x) (kk : Gk p l e R s m args below meth c d A Q nL σ k n (pc + 3) lv (.int x :: st)) : Gk p l e R s m args below meth c d A Q nL σ k n pc lv (va_rf o :: st) := by
  subst hx
  exact r_get (ci := 3) (j := 0) (T := TX2) (rf := "FrameTalk$Maker") E hd wm_1_74 (fun _ h9 => h9) rfl (by decide) inw_3 (by decide) ho hg rfl kk
set_option maxRecDepth 20000 in
theorem pf_X2_9 {p : Program} {l : Launch} {e : Env} {R : Room} {s : State} {m : MethodId} {args : Array Value} {below : List Frame} {meth : Method} {c : Code} {d : Dp} {A : Nat → Prop} {Q : State → Prop} {nL : Nat} {σ : Sg} {k n pc : Nat} {lv : List (Nat × Value)} {st : List Value} {cc : ByteArray} {ret : Option FieldType} (E : Ev p s m args meth c RX2 cc nL ret d A) {o : Option Nat} {a : Nat} {x : Int32} (hd : decode cc pc = .ok (.putfield 9, 3)) (ho : o = some a) (hg : gc σ a = 4) (kk : Gk p l e R s m args below meth c d A Q nL (si σ 300 a x) k n (pc + 3) lv st) : Gk p l e R s m args below meth c d A Q nL σ k n pc lv (.int x :: va_rf o :: st) :=
  r_put (ci := 3) (j := 0) (T := TX2) (rf := "FrameTalk$Maker") (σ' := si σ 300 a x) (ty := tyX2 0) E hd wm_1_74 (fun _ h9 => h9) rfl (by decide) inw_3 (by decide) tyX2 tyX2_ok nmX2 rfl (tyX2_ok 0 (by decide)) rfl rfl ho hg (by simp [fl]) rfl rfl (fun b hb c => fl_si hb c) (fun _ _ => rfl) fs_300 kk
set_option maxRecDepth 20000 in
theorem cl_X2_15 {p : Program} {l : Launch} {e : Env} {R : Room} {s : State} {m : MethodId} {args : Array Value} {below : List Frame} {meth : Method} {c : Code} {d : Dp} {A : Nat → Prop} {Q : State → Prop} {nL : Nat} {σ : Sg} {k n pc : Nat} {lv : List (Nat × Value)} {cc : ByteArray} {ret : Option FieldType} (E : Ev p s m args meth c RX2 cc nL ret d A) {o : Option Nat} {b : Nat} {x1 : Int32} {x2 : Int32}  {rest : List Value} {σ1 : Sg} (hM : Mt l d yX5_init cX5_init 3 none 1 20 σ [.ref b, .int x1, .int x2] none σ1 0 0) (hd : decode cc pc = .ok (.invokespecial 15, 3)) (hR : 1 + 1 ≤ R.frames ∧ 8 + (3 + 11) + 20 ≤ R.locals) (hf : k + 0 ≤ R.cells ∧ n + 0 ≤ R.slots) (hcat : (rest.map fun v => v.category).sum ≤ 8) (ho : o = some b) (kk : Gk p l e R s m args below meth c d A Q nL σ1 k n (pc + 3) lv rest) : Gk p l e R s m args below meth c d A Q nL σ k n pc lv (.int x2 :: .int x1 :: va_rf o :: rest) :=
  r_cI (As := [.int x1, .int x2]) (rest := rest) (nA := 2) E hM hd wm_2_144 wm_2_145 wm_1_17 wm_2_146 rfl ⟨by decide, by decide, by decide +kernel⟩ rfl hR hf ho rfl hcat kk
set_option maxRecDepth 20000 in
theorem pf_X2_18 {p : Program} {l : Launch} {e : Env} {R : Room} {s : State} {m : MethodId} {args : Array Value} {below : List Frame} {meth : Method} {c : Code} {d : Dp} {A : Nat → Prop} {Q : State → Prop} {nL : Nat} {σ : Sg} {k n pc : Nat} {lv : List (Nat × Value)} {st : List Value} {cc : ByteArray} {ret : Option FieldType} (E : Ev p s m args meth c RX2 cc nL ret d A) {o : Option Nat} {a : Nat} {x : Int64} (hd : decode cc pc = .ok (.putfield 18, 3)) (ho : o = some a) (hg : gc σ a = 7) (kk : Gk p l e R s m args below meth c d A Q nL (sj σ 602 a x) k n (pc + 3) lv st) : Gk p l e R s m args below meth c d A Q nL σ k n pc lv (.long x :: va_rf o :: st) :=
  r_put (ci := 6) (j := 2) (T := TX5) (rf := "FrameTalk$Thing") (σ' := sj σ 602 a x) (ty := tyX5 2) E hd wm_2_151 (fun _ h9 => h9) rfl (by decide) inw_6 (by decide) tyX5 tyX5_ok nmX5 rfl (tyX5_ok 2 (by decide)) rfl rfl ho hg (by simp [fl]) rfl rfl (fun b hb c => fl_sj hb c) (fun _ _ => rfl) fs_602 kk
set_option maxRecDepth 20000 in
theorem gf_Jx4a65c_48 {p : Program} {l : Launch} {e : Env} {R : Room} {s : State} {m : MethodId} {args : Array Value} {below : List Frame} {meth : Method} {c : Code} {d : Dp} {A : Nat → Prop} {Q : State → Prop} {nL : Nat} {σ : Sg} {k n pc : Nat} {lv : List (Nat × Value)} {st : List Value} {cc : ByteArray} {ret : Option FieldType} (E : Ev p s m args meth c RJx4a65c cc nL ret d A) {o : Option Nat} {a : Nat} {x : Int32} (hd : decode cc pc = .ok (.getfield 48, 3)) (ho : o = some a) (hg : gc σ a = 1) (hx : gi σ 2 a = x) (kk : Gk p l e R s m args below meth c d A Q nL σ k n (pc + 3) lv (.int x :: st)) : Gk p l e R s m args below meth c d A Q nL σ k n pc lv (va_rf o :: st) := by
  subst hx
  exact r_get (ci := 0) (j := 2) (T := TJx4a65c) (rf := "java/util/ArrayList") E hd wm_1_53 (fun _ h9 => h9) rfl (by decide) inw_0 (by decide) ho hg rfl kk
set_option maxRecDepth 20000 in
theorem cl_J15_105 {p : Program} {l : Launch} {e : Env} {R : Room} {s : State} {m : MethodId} {args : Array Value} {below : List Frame} {meth : Method} {c : Code} {d : Dp} {A : Nat → Prop} {Q : State → Prop} {nL : Nat} {σ : Sg} {k n pc : Nat} {lv : List (Nat × Value)} {cc : ByteArray} {ret : Option FieldType} (E : Ev p s m args meth c RJ15 cc nL ret d A) {x1 : Int32} {x2 : Int32} {x3 : Option Nat} {r : Int32} {rest : List Value} {σ1 : Sg} (hM : Mt l d yJ3_checkIndex_8e157 cJ3_checkIndex_8e157 3 (some .int) 0 0 σ [.int x1, .int x2, va_rf x3] (some (.int r)) σ1 0 0) (hd : decode cc pc = .ok (.invokestatic 105, 3)) (hR : 0 + 1 ≤ R.frames ∧ 8 + (3 + 11) + 0 ≤ R.locals) (hf : k + 0 ≤ R.cells ∧ n + 0 ≤ R.slots) (hcat : (rest.map fun v => v.category).sum ≤ 8) (kk : Gk p l e R s m args below meth c d A Q nL σ1 k n (pc + 3) lv (.int r :: rest)) : Gk p l e R s m args below meth c d A Q nL σ k n pc lv (va_rf x3 :: .int x2 :: .int x1 :: rest) :=
  r_cS (As := [.int x1, .int x2, va_rf x3]) (rest := rest) (nA := 3) E hM hd wm_2_68 wm_2_69 wm_1_16 wm_2_70 ⟨by decide, by decide, by decide +kernel⟩ rfl hR hf rfl hcat kk
set_option maxRecDepth 20000 in
theorem gf_Jx4a65c_9 {p : Program} {l : Launch} {e : Env} {R : Room} {s : State} {m : MethodId} {args : Array Value} {below : List Frame} {meth : Method} {c : Code} {d : Dp} {A : Nat → Prop} {Q : State → Prop} {nL : Nat} {σ : Sg} {k n pc : Nat} {lv : List (Nat × Value)} {st : List Value} {cc : ByteArray} {ret : Option FieldType} (E : Ev p s m args meth c RJx4a65c cc nL ret d A) {o : Option Nat} {a : Nat} {x : Option Nat} (hd : decode cc pc = .ok (.getfield 9, 3)) (ho : o = some a) (hg : gc σ a = 1) (hx : gp σ 1 a = x) (kk : Gk p l e R s m args below meth c d A Q nL σ k n (pc + 3) lv (va_rf x :: st)) : Gk p l e R s m args below meth c d A Q nL σ k n pc lv (va_rf o :: st) := by
  subst hx
  exact r_get (ci := 0) (j := 1) (T := TJx4a65c) (rf := "java/util/ArrayList") E hd wm_1_52 (fun _ h9 => h9) rfl (by decide) inw_0 (by decide) ho hg rfl kk
set_option maxRecDepth 20000 in
theorem cl_Jx4a65c_118 {p : Program} {l : Launch} {e : Env} {R : Room} {s : State} {m : MethodId} {args : Array Value} {below : List Frame} {meth : Method} {c : Code} {d : Dp} {A : Nat → Prop} {Q : State → Prop} {nL : Nat} {σ : Sg} {k n pc : Nat} {lv : List (Nat × Value)} {cc : ByteArray} {ret : Option FieldType} (E : Ev p s m args meth c RJx4a65c cc nL ret d A) {x1 : Int32} {x2 : Int32} {r : Int32} {rest : List Value} {σ1 : Sg} (hM : Mt l d yJ15_checkIndex_7cf53 cJ15_checkIndex_7cf53 2 (some .int) 1 22 σ [.int x1, .int x2] (some (.int r)) σ1 0 0) (hd : decode cc pc = .ok (.invokestatic 118, 3)) (hR : 1 + 1 ≤ R.frames ∧ 8 + (2 + 11) + 22 ≤ R.locals) (hf : k + 0 ≤ R.cells ∧ n + 0 ≤ R.slots) (hcat : (rest.map fun v => v.category).sum ≤ 8) (kk : Gk p l e R s m args below meth c d A Q nL σ1 k n (pc + 3) lv (.int r :: rest)) : Gk p l e R s m args below meth c d A Q nL σ k n pc lv (.int x2 :: .int x1 :: rest) :=
  r_cS (As := [.int x1, .int x2]) (rest := rest) (nA := 2) E hM hd wm_2_65 wm_2_66 wm_1_15 wm_2_67 ⟨by decide, by decide, by decide +kernel⟩ rfl hR hf rfl hcat kk
set_option maxRecDepth 20000 in
theorem cl_Jx4a65c_123 {p : Program} {l : Launch} {e : Env} {R : Room} {s : State} {m : MethodId} {args : Array Value} {below : List Frame} {meth : Method} {c : Code} {d : Dp} {A : Nat → Prop} {Q : State → Prop} {nL : Nat} {σ : Sg} {k n pc : Nat} {lv : List (Nat × Value)} {cc : ByteArray} {ret : Option FieldType} (E : Ev p s m args meth c RJx4a65c cc nL ret d A) {o : Option Nat} {b : Nat} {x1 : Int32} {r : Option Nat} {rest : List Value} {σ1 : Sg} (hM : Mt l d yJx4a65c_elementData_915e3 cJx4a65c_elementData_915e3 2 (some (.object "java/lang/Object")) 0 0 σ [.ref b, .int x1] (some (va_rf r)) σ1 0 0) (hd : decode cc pc = .ok (.invokevirtual 123, 3)) (hR : 0 + 1 ≤ R.frames ∧ 8 + (2 + 11) + 0 ≤ R.locals) (hf : k + 0 ≤ R.cells ∧ n + 0 ≤ R.slots) (hcat : (rest.map fun v => v.category).sum ≤ 8) (ho : o = some b) (hg : gc σ b = 1) (kk : Gk p l e R s m args below meth c d A Q nL σ1 k n (pc + 3) lv (va_rf r :: rest)) : Gk p l e R s m args below meth c d A Q nL σ k n pc lv (.int x1 :: va_rf o :: rest) :=
  r_cV (As := [.int x1]) (rest := rest) (ci := 0) (nA := 1) E hM hd wm_2_71 wm_2_72 wm_2_73 wm_1_6 wm_2_74 rfl ⟨by decide, by decide, by decide +kernel⟩ rfl hR hf rfl (by decide) ho hg rfl hcat kk
set_option maxRecDepth 20000 in
theorem gf_X4_12 {p : Program} {l : Launch} {e : Env} {R : Room} {s : State} {m : MethodId} {args : Array Value} {below : List Frame} {meth : Method} {c : Code} {d : Dp} {A : Nat → Prop} {Q : State → Prop} {nL : Nat} {σ : Sg} {k n pc : Nat} {lv : List (Nat × Value)} {st : List Value} {cc : ByteArray} {ret : Option FieldType} (E : Ev p s m args meth c RX4 cc nL ret d A) {o : Option Nat} {a : Nat} {x : Option Nat} (hd : decode cc pc = .ok (.getfield 12, 3)) (ho : o = some a) (hg : gc σ a = 6) (hx : gp σ 500 a = x) (kk : Gk p l e R s m args below meth c d A Q nL σ k n (pc + 3) lv (va_rf x :: st)) : Gk p l e R s m args below meth c d A Q nL σ k n pc lv (va_rf o :: st) := by
  subst hx
  exact r_get (ci := 5) (j := 0) (T := TX4) (rf := "FrameTalk$Program") E hd wm_1_64 (fun _ h9 => h9) rfl (by decide) inw_5 (by decide) ho hg rfl kk
set_option maxRecDepth 20000 in
theorem cl_X4_18 {p : Program} {l : Launch} {e : Env} {R : Room} {s : State} {m : MethodId} {args : Array Value} {below : List Frame} {meth : Method} {c : Code} {d : Dp} {A : Nat → Prop} {Q : State → Prop} {nL : Nat} {σ : Sg} {k n pc : Nat} {lv : List (Nat × Value)} {cc : ByteArray} {ret : Option FieldType} (E : Ev p s m args meth c RX4 cc nL ret d A) {o : Option Nat} {b : Nat}  {r : Int32} {rest : List Value} {σ1 : Sg} (hM : Mt l d yJx4a65c_size_8abf5 cJx4a65c_size_8abf5 1 (some .int) 0 0 σ [.ref b] (some (.int r)) σ1 0 0) (hd : decode cc pc = .ok (.invokevirtual 18, 3)) (hR : 0 + 1 ≤ R.frames ∧ 8 + (1 + 11) + 0 ≤ R.locals) (hf : k + 0 ≤ R.cells ∧ n + 0 ≤ R.slots) (hcat : (rest.map fun v => v.category).sum ≤ 8) (ho : o = some b) (hg : gc σ b = 1) (kk : Gk p l e R s m args below meth c d A Q nL σ1 k n (pc + 3) lv (.int r :: rest)) : Gk p l e R s m args below meth c d A Q nL σ k n pc lv (va_rf o :: rest) :=
  r_cV (As := []) (rest := rest) (ci := 0) (nA := 0) E hM hd wm_1_188 wm_1_189 wm_1_190 wm_1_6 wm_1_191 rfl ⟨by decide, by decide, by decide +kernel⟩ rfl hR hf rfl (by decide) ho hg rfl hcat kk
set_option maxRecDepth 20000 in
theorem cl_X4_22 {p : Program} {l : Launch} {e : Env} {R : Room} {s : State} {m : MethodId} {args : Array Value} {below : List Frame} {meth : Method} {c : Code} {d : Dp} {A : Nat → Prop} {Q : State → Prop} {nL : Nat} {σ : Sg} {k n pc : Nat} {lv : List (Nat × Value)} {cc : ByteArray} {ret : Option FieldType} (E : Ev p s m args meth c RX4 cc nL ret d A) {o : Option Nat} {b : Nat} {x1 : Int32} {r : Option Nat} {rest : List Value} {σ1 : Sg} (hM : Mt l d yJx4a65c_get_915e3 cJx4a65c_get_915e3 2 (some (.object "java/lang/Object")) 2 43 σ [.ref b, .int x1] (some (va_rf r)) σ1 0 0) (hd : decode cc pc = .ok (.invokevirtual 22, 3)) (hR : 2 + 1 ≤ R.frames ∧ 8 + (2 + 11) + 43 ≤ R.locals) (hf : k + 0 ≤ R.cells ∧ n + 0 ≤ R.slots) (hcat : (rest.map fun v => v.category).sum ≤ 8) (ho : o = some b) (hg : gc σ b = 1) (kk : Gk p l e R s m args below meth c d A Q nL σ1 k n (pc + 3) lv (va_rf r :: rest)) : Gk p l e R s m args below meth c d A Q nL σ k n pc lv (.int x1 :: va_rf o :: rest) :=
  r_cV (As := [.int x1]) (rest := rest) (ci := 0) (nA := 1) E hM hd wm_2_61 wm_2_62 wm_2_63 wm_1_6 wm_2_64 rfl ⟨by decide, by decide, by decide +kernel⟩ rfl hR hf rfl (by decide) ho hg rfl hcat kk
set_option maxRecDepth 20000 in
theorem pf_X1_136 {p : Program} {l : Launch} {e : Env} {R : Room} {s : State} {m : MethodId} {args : Array Value} {below : List Frame} {meth : Method} {c : Code} {d : Dp} {A : Nat → Prop} {Q : State → Prop} {nL : Nat} {σ : Sg} {k n pc : Nat} {lv : List (Nat × Value)} {st : List Value} {cc : ByteArray} {ret : Option FieldType} (E : Ev p s m args meth c RX1 cc nL ret d A) {o : Option Nat} {a : Nat} {x : Int32} (hd : decode cc pc = .ok (.putfield 136, 3)) (ho : o = some a) (hg : gc σ a = 2) (kk : Gk p l e R s m args below meth c d A Q nL (si σ 104 a x) k n (pc + 3) lv st) : Gk p l e R s m args below meth c d A Q nL σ k n pc lv (.int x :: va_rf o :: st) :=
  r_put (ci := 1) (j := 4) (T := TX0) (rf := "FrameTalk$Frame") (σ' := si σ 104 a x) (ty := tyX0 4) E hd wm_1_97 (fun _ h9 => h9) rfl (by decide) inw_1 (by decide) tyX0 tyX0_ok nmX0 rfl (tyX0_ok 4 (by decide)) rfl rfl ho hg (by simp [fl]) rfl rfl (fun b hb c => fl_si hb c) (fun _ _ => rfl) fs_104 kk
set_option maxRecDepth 20000 in
theorem gf_X1_12 {p : Program} {l : Launch} {e : Env} {R : Room} {s : State} {m : MethodId} {args : Array Value} {below : List Frame} {meth : Method} {c : Code} {d : Dp} {A : Nat → Prop} {Q : State → Prop} {nL : Nat} {σ : Sg} {k n pc : Nat} {lv : List (Nat × Value)} {st : List Value} {cc : ByteArray} {ret : Option FieldType} (E : Ev p s m args meth c RX1 cc nL ret d A) {o : Option Nat} {a : Nat} {x : Option Nat} (hd : decode cc pc = .ok (.getfield 12, 3)) (ho : o = some a) (hg : gc σ a = 3) (hx : gp σ 200 a = x) (kk : Gk p l e R s m args below meth c d A Q nL σ k n (pc + 3) lv (va_rf x :: st)) : Gk p l e R s m args below meth c d A Q nL σ k n pc lv (va_rf o :: st) := by
  subst hx
  exact r_get (ci := 2) (j := 0) (T := TX1) (rf := "FrameTalk$Machine") E hd wm_1_129 (fun _ h9 => h9) rfl (by decide) inw_2 (by decide) ho hg rfl kk
set_option maxRecDepth 20000 in
theorem cl_X1_147 {p : Program} {l : Launch} {e : Env} {R : Room} {s : State} {m : MethodId} {args : Array Value} {below : List Frame} {meth : Method} {c : Code} {d : Dp} {A : Nat → Prop} {Q : State → Prop} {nL : Nat} {σ : Sg} {k n pc : Nat} {lv : List (Nat × Value)} {cc : ByteArray} {ret : Option FieldType} (E : Ev p s m args meth c RX1 cc nL ret d A) {o : Option Nat} {b : Nat} {x1 : Int32} {r : Option Nat} {rest : List Value} {σ1 : Sg} (hM : Mt l d yX4_at cX4_at 2 (some (.object "FrameTalk$Node")) 3 64 σ [.ref b, .int x1] (some (va_rf r)) σ1 0 0) (hd : decode cc pc = .ok (.invokevirtual 147, 3)) (hR : 3 + 1 ≤ R.frames ∧ 8 + (2 + 11) + 64 ≤ R.locals) (hf : k + 0 ≤ R.cells ∧ n + 0 ≤ R.slots) (hcat : (rest.map fun v => v.category).sum ≤ 8) (ho : o = some b) (hg : gc σ b = 6) (kk : Gk p l e R s m args below meth c d A Q nL σ1 k n (pc + 3) lv (va_rf r :: rest)) : Gk p l e R s m args below meth c d A Q nL σ k n pc lv (.int x1 :: va_rf o :: rest) :=
  r_cV (As := [.int x1]) (rest := rest) (ci := 5) (nA := 1) E hM hd wm_2_184 wm_2_58 wm_2_59 wm_1_3 wm_2_60 rfl ⟨by decide, by decide, by decide +kernel⟩ rfl hR hf rfl (by decide) ho hg rfl hcat kk
set_option maxRecDepth 20000 in
theorem cl_X1_180 {p : Program} {l : Launch} {e : Env} {R : Room} {s : State} {m : MethodId} {args : Array Value} {below : List Frame} {meth : Method} {c : Code} {d : Dp} {A : Nat → Prop} {Q : State → Prop} {nL : Nat} {σ : Sg} {k n pc : Nat} {lv : List (Nat × Value)} {cc : ByteArray} {ret : Option FieldType} (E : Ev p s m args meth c RX1 cc nL ret d A) {o : Option Nat} {b : Nat} {x1 : Option Nat} {r : Int32} {rest : List Value} {σ1 : Sg} (hM : Mt l d yX1_takesFault cX1_takesFault 3 (some .boolean) 1 21 σ [.ref b, va_rf x1] (some (.int r)) σ1 0 0) (hd : decode cc pc = .ok (.invokevirtual 180, 3)) (hR : 1 + 1 ≤ R.frames ∧ 8 + (3 + 11) + 21 ≤ R.locals) (hf : k + 0 ≤ R.cells ∧ n + 0 ≤ R.slots) (hcat : (rest.map fun v => v.category).sum ≤ 8) (ho : o = some b) (hg : gc σ b = 3) (kk : Gk p l e R s m args below meth c d A Q nL σ1 k n (pc + 3) lv (.int r :: rest)) : Gk p l e R s m args below meth c d A Q nL σ k n pc lv (va_rf x1 :: va_rf o :: rest) :=
  r_cV (As := [va_rf x1]) (rest := rest) (ci := 2) (nA := 1) E hM hd wm_2_130 wm_2_132 wm_p_8 wm_1_2 wm_2_133 rfl ⟨by decide, by decide, by decide +kernel⟩ rfl hR hf rfl (by decide) ho hg rfl hcat kk
set_option maxRecDepth 20000 in
theorem gf_X1_21 {p : Program} {l : Launch} {e : Env} {R : Room} {s : State} {m : MethodId} {args : Array Value} {below : List Frame} {meth : Method} {c : Code} {d : Dp} {A : Nat → Prop} {Q : State → Prop} {nL : Nat} {σ : Sg} {k n pc : Nat} {lv : List (Nat × Value)} {st : List Value} {cc : ByteArray} {ret : Option FieldType} (E : Ev p s m args meth c RX1 cc nL ret d A) {o : Option Nat} {a : Nat} {x : Option Nat} (hd : decode cc pc = .ok (.getfield 21, 3)) (ho : o = some a) (hg : gc σ a = 3) (hx : gp σ 201 a = x) (kk : Gk p l e R s m args below meth c d A Q nL σ k n (pc + 3) lv (va_rf x :: st)) : Gk p l e R s m args below meth c d A Q nL σ k n pc lv (va_rf o :: st) := by
  subst hx
  exact r_get (ci := 2) (j := 1) (T := TX1) (rf := "FrameTalk$Machine") E hd wm_1_131 (fun _ h9 => h9) rfl (by decide) inw_2 (by decide) ho hg rfl kk
set_option maxRecDepth 20000 in
theorem cl_X1_184 {p : Program} {l : Launch} {e : Env} {R : Room} {s : State} {m : MethodId} {args : Array Value} {below : List Frame} {meth : Method} {c : Code} {d : Dp} {A : Nat → Prop} {Q : State → Prop} {nL : Nat} {σ : Sg} {k n pc : Nat} {lv : List (Nat × Value)} {cc : ByteArray} {ret : Option FieldType} (E : Ev p s m args meth c RX1 cc nL ret d A) {o : Option Nat} {b : Nat} {k1 n1 : Nat} {x1 : Int32} {x2 : Int64} {r : Option Nat} {rest : List Value} {σ1 : Sg} (hM : Mt l d yX2_withValue cX2_withValue 5 (some (.object "FrameTalk$Thing")) 2 42 σ [.ref b, .int x1, .long x2] (some (va_rf r)) σ1 k1 n1) (hd : decode cc pc = .ok (.invokevirtual 184, 3)) (hR : 2 + 1 ≤ R.frames ∧ 8 + (5 + 11) + 42 ≤ R.locals) (hf : k + k1 ≤ R.cells ∧ n + n1 ≤ R.slots) (hcat : (rest.map fun v => v.category).sum ≤ 8) (ho : o = some b) (hg : gc σ b = 4) (kk : Gk p l e R s m args below meth c d A Q nL σ1 (k + k1) (n + n1) (pc + 3) lv (va_rf r :: rest)) : Gk p l e R s m args below meth c d A Q nL σ k n pc lv (.long x2 :: .int x1 :: va_rf o :: rest) :=
  r_cV (As := [.int x1, .long x2]) (rest := rest) (ci := 3) (nA := 2) E hM hd wm_2_138 wm_2_139 wm_2_140 wm_1_7 wm_2_141 rfl ⟨by decide, by decide, by decide +kernel⟩ rfl hR hf rfl (by decide) ho hg rfl hcat kk
set_option maxRecDepth 20000 in
theorem cl_X1_114 {p : Program} {l : Launch} {e : Env} {R : Room} {s : State} {m : MethodId} {args : Array Value} {below : List Frame} {meth : Method} {c : Code} {d : Dp} {A : Nat → Prop} {Q : State → Prop} {nL : Nat} {σ : Sg} {k n pc : Nat} {lv : List (Nat × Value)} {cc : ByteArray} {ret : Option FieldType} (E : Ev p s m args meth c RX1 cc nL ret d A) {o : Option Nat} {b : Nat} {k1 n1 : Nat} {x1 : Option Nat} {x2 : Int32}  {rest : List Value} {σ1 : Sg} (hM : Mt l d yX1_workPart cX1_workPart 4 none 4 85 σ [.ref b, va_rf x1, .int x2] none σ1 k1 n1) (hd : decode cc pc = .ok (.invokevirtual 114, 3)) (hR : 4 + 1 ≤ R.frames ∧ 8 + (4 + 11) + 85 ≤ R.locals) (hf : k + k1 ≤ R.cells ∧ n + n1 ≤ R.slots) (hcat : (rest.map fun v => v.category).sum ≤ 8) (ho : o = some b) (hg : gc σ b = 3) (kk : Gk p l e R s m args below meth c d A Q nL σ1 (k + k1) (n + n1) (pc + 3) lv rest) : Gk p l e R s m args below meth c d A Q nL σ k n pc lv (.int x2 :: va_rf x1 :: va_rf o :: rest) :=
  r_cV (As := [va_rf x1, .int x2]) (rest := rest) (ci := 2) (nA := 2) E hM hd wm_2_180 wm_2_182 wm_p_9 wm_1_2 wm_2_183 rfl ⟨by decide, by decide, by decide +kernel⟩ rfl hR hf rfl (by decide) ho hg rfl hcat kk
set_option maxRecDepth 20000 in
theorem gf_X1_129 {p : Program} {l : Launch} {e : Env} {R : Room} {s : State} {m : MethodId} {args : Array Value} {below : List Frame} {meth : Method} {c : Code} {d : Dp} {A : Nat → Prop} {Q : State → Prop} {nL : Nat} {σ : Sg} {k n pc : Nat} {lv : List (Nat × Value)} {st : List Value} {cc : ByteArray} {ret : Option FieldType} (E : Ev p s m args meth c RX1 cc nL ret d A) {o : Option Nat} {a : Nat} {x : Option Nat} (hd : decode cc pc = .ok (.getfield 129, 3)) (ho : o = some a) (hg : gc σ a = 2) (hx : gp σ 100 a = x) (kk : Gk p l e R s m args below meth c d A Q nL σ k n (pc + 3) lv (va_rf x :: st)) : Gk p l e R s m args below meth c d A Q nL σ k n pc lv (va_rf o :: st) := by
  subst hx
  exact r_get (ci := 1) (j := 0) (T := TX0) (rf := "FrameTalk$Frame") E hd wm_1_90 (fun _ h9 => h9) rfl (by decide) inw_1 (by decide) ho hg rfl kk
set_option maxRecDepth 20000 in
theorem gf_X5_15 {p : Program} {l : Launch} {e : Env} {R : Room} {s : State} {m : MethodId} {args : Array Value} {below : List Frame} {meth : Method} {c : Code} {d : Dp} {A : Nat → Prop} {Q : State → Prop} {nL : Nat} {σ : Sg} {k n pc : Nat} {lv : List (Nat × Value)} {st : List Value} {cc : ByteArray} {ret : Option FieldType} (E : Ev p s m args meth c RX5 cc nL ret d A) {o : Option Nat} {a : Nat} {x : Int32} (hd : decode cc pc = .ok (.getfield 15, 3)) (ho : o = some a) (hg : gc σ a = 7) (hx : gi σ 601 a = x) (kk : Gk p l e R s m args below meth c d A Q nL σ k n (pc + 3) lv (.int x :: st)) : Gk p l e R s m args below meth c d A Q nL σ k n pc lv (va_rf o :: st) := by
  subst hx
  exact r_get (ci := 6) (j := 1) (T := TX5) (rf := "FrameTalk$Thing") E hd wm_2_149 (fun _ h9 => h9) rfl (by decide) inw_6 (by decide) ho hg rfl kk
set_option maxRecDepth 20000 in
theorem cl_X1_188 {p : Program} {l : Launch} {e : Env} {R : Room} {s : State} {m : MethodId} {args : Array Value} {below : List Frame} {meth : Method} {c : Code} {d : Dp} {A : Nat → Prop} {Q : State → Prop} {nL : Nat} {σ : Sg} {k n pc : Nat} {lv : List (Nat × Value)} {cc : ByteArray} {ret : Option FieldType} (E : Ev p s m args meth c RX1 cc nL ret d A) {o : Option Nat} {b : Nat} {x1 : Int32} {r : Int32} {rest : List Value} {σ1 : Sg} (hM : Mt l d yX5_isA cX5_isA 2 (some .boolean) 0 0 σ [.ref b, .int x1] (some (.int r)) σ1 0 0) (hd : decode cc pc = .ok (.invokevirtual 188, 3)) (hR : 0 + 1 ≤ R.frames ∧ 8 + (2 + 11) + 0 ≤ R.locals) (hf : k + 0 ≤ R.cells ∧ n + 0 ≤ R.slots) (hcat : (rest.map fun v => v.category).sum ≤ 8) (ho : o = some b) (hg : gc σ b = 7) (kk : Gk p l e R s m args below meth c d A Q nL σ1 k n (pc + 3) lv (.int r :: rest)) : Gk p l e R s m args below meth c d A Q nL σ k n pc lv (.int x1 :: va_rf o :: rest) :=
  r_cV (As := [.int x1]) (rest := rest) (ci := 6) (nA := 1) E hM hd wm_2_197 wm_2_198 wm_2_199 wm_1_17 wm_2_200 rfl ⟨by decide, by decide, by decide +kernel⟩ rfl hR hf rfl (by decide) ho hg rfl hcat kk
set_option maxRecDepth 20000 in
theorem gf_X1_166 {p : Program} {l : Launch} {e : Env} {R : Room} {s : State} {m : MethodId} {args : Array Value} {below : List Frame} {meth : Method} {c : Code} {d : Dp} {A : Nat → Prop} {Q : State → Prop} {nL : Nat} {σ : Sg} {k n pc : Nat} {lv : List (Nat × Value)} {st : List Value} {cc : ByteArray} {ret : Option FieldType} (E : Ev p s m args meth c RX1 cc nL ret d A) {o : Option Nat} {a : Nat} {x : Option Nat} (hd : decode cc pc = .ok (.getfield 166, 3)) (ho : o = some a) (hg : gc σ a = 2) (hx : gp σ 105 a = x) (kk : Gk p l e R s m args below meth c d A Q nL σ k n (pc + 3) lv (va_rf x :: st)) : Gk p l e R s m args below meth c d A Q nL σ k n pc lv (va_rf o :: st) := by
  subst hx
  exact r_get (ci := 1) (j := 5) (T := TX0) (rf := "FrameTalk$Frame") E hd wm_1_99 (fun _ h9 => h9) rfl (by decide) inw_1 (by decide) ho hg rfl kk
set_option maxRecDepth 20000 in
theorem cl_X1_169 {p : Program} {l : Launch} {e : Env} {R : Room} {s : State} {m : MethodId} {args : Array Value} {below : List Frame} {meth : Method} {c : Code} {d : Dp} {A : Nat → Prop} {Q : State → Prop} {nL : Nat} {σ : Sg} {k n pc : Nat} {lv : List (Nat × Value)} {cc : ByteArray} {ret : Option FieldType} (E : Ev p s m args meth c RX1 cc nL ret d A) {o : Option Nat} {b : Nat} {x1 : Option Nat} {x2 : Option Nat} {x3 : Int32} {r : Int32} {rest : List Value} {σ1 : Sg} (hM : Mt l d yX1_lacks cX1_lacks 4 (some .boolean) 1 22 σ [.ref b, va_rf x1, va_rf x2, .int x3] (some (.int r)) σ1 0 0) (hd : decode cc pc = .ok (.invokevirtual 169, 3)) (hR : 1 + 1 ≤ R.frames ∧ 8 + (4 + 11) + 22 ≤ R.locals) (hf : k + 0 ≤ R.cells ∧ n + 0 ≤ R.slots) (hcat : (rest.map fun v => v.category).sum ≤ 8) (ho : o = some b) (hg : gc σ b = 3) (kk : Gk p l e R s m args below meth c d A Q nL σ1 k n (pc + 3) lv (.int r :: rest)) : Gk p l e R s m args below meth c d A Q nL σ k n pc lv (.int x3 :: va_rf x2 :: va_rf x1 :: va_rf o :: rest) :=
  r_cV (As := [va_rf x1, va_rf x2, .int x3]) (rest := rest) (ci := 2) (nA := 3) E hM hd wm_2_193 wm_2_195 wm_p_12 wm_1_2 wm_2_196 rfl ⟨by decide, by decide, by decide +kernel⟩ rfl hR hf rfl (by decide) ho hg rfl hcat kk
set_option maxRecDepth 20000 in
theorem gf_X1_173 {p : Program} {l : Launch} {e : Env} {R : Room} {s : State} {m : MethodId} {args : Array Value} {below : List Frame} {meth : Method} {c : Code} {d : Dp} {A : Nat → Prop} {Q : State → Prop} {nL : Nat} {σ : Sg} {k n pc : Nat} {lv : List (Nat × Value)} {st : List Value} {cc : ByteArray} {ret : Option FieldType} (E : Ev p s m args meth c RX1 cc nL ret d A) {o : Option Nat} {a : Nat} {x : Int64} (hd : decode cc pc = .ok (.getfield 173, 3)) (ho : o = some a) (hg : gc σ a = 7) (hx : gj σ 602 a = x) (kk : Gk p l e R s m args below meth c d A Q nL σ k n (pc + 3) lv (.long x :: st)) : Gk p l e R s m args below meth c d A Q nL σ k n pc lv (va_rf o :: st) := by
  subst hx
  exact r_get (ci := 6) (j := 2) (T := TX5) (rf := "FrameTalk$Thing") E hd wm_2_153 (fun _ h9 => h9) rfl (by decide) inw_6 (by decide) ho hg rfl kk
set_option maxRecDepth 20000 in
theorem gf_X1_177 {p : Program} {l : Launch} {e : Env} {R : Room} {s : State} {m : MethodId} {args : Array Value} {below : List Frame} {meth : Method} {c : Code} {d : Dp} {A : Nat → Prop} {Q : State → Prop} {nL : Nat} {σ : Sg} {k n pc : Nat} {lv : List (Nat × Value)} {st : List Value} {cc : ByteArray} {ret : Option FieldType} (E : Ev p s m args meth c RX1 cc nL ret d A) {o : Option Nat} {a : Nat} {x : Int64} (hd : decode cc pc = .ok (.getfield 177, 3)) (ho : o = some a) (hg : gc σ a = 2) (hx : gj σ 109 a = x) (kk : Gk p l e R s m args below meth c d A Q nL σ k n (pc + 3) lv (.long x :: st)) : Gk p l e R s m args below meth c d A Q nL σ k n pc lv (va_rf o :: st) := by
  subst hx
  exact r_get (ci := 1) (j := 9) (T := TX0) (rf := "FrameTalk$Frame") E hd wm_1_107 (fun _ h9 => h9) rfl (by decide) inw_1 (by decide) ho hg rfl kk
set_option maxRecDepth 20000 in
theorem pf_X1_177 {p : Program} {l : Launch} {e : Env} {R : Room} {s : State} {m : MethodId} {args : Array Value} {below : List Frame} {meth : Method} {c : Code} {d : Dp} {A : Nat → Prop} {Q : State → Prop} {nL : Nat} {σ : Sg} {k n pc : Nat} {lv : List (Nat × Value)} {st : List Value} {cc : ByteArray} {ret : Option FieldType} (E : Ev p s m args meth c RX1 cc nL ret d A) {o : Option Nat} {a : Nat} {x : Int64} (hd : decode cc pc = .ok (.putfield 177, 3)) (ho : o = some a) (hg : gc σ a = 2) (kk : Gk p l e R s m args below meth c d A Q nL (sj σ 109 a x) k n (pc + 3) lv st) : Gk p l e R s m args below meth c d A Q nL σ k n pc lv (.long x :: va_rf o :: st) :=
  r_put (ci := 1) (j := 9) (T := TX0) (rf := "FrameTalk$Frame") (σ' := sj σ 109 a x) (ty := tyX0 9) E hd wm_1_107 (fun _ h9 => h9) rfl (by decide) inw_1 (by decide) tyX0 tyX0_ok nmX0 rfl (tyX0_ok 9 (by decide)) rfl rfl ho hg (by simp [fl]) rfl rfl (fun b hb c => fl_sj hb c) (fun _ _ => rfl) fs_109 kk
set_option maxRecDepth 20000 in
theorem pf_X1_117 {p : Program} {l : Launch} {e : Env} {R : Room} {s : State} {m : MethodId} {args : Array Value} {below : List Frame} {meth : Method} {c : Code} {d : Dp} {A : Nat → Prop} {Q : State → Prop} {nL : Nat} {σ : Sg} {k n pc : Nat} {lv : List (Nat × Value)} {st : List Value} {cc : ByteArray} {ret : Option FieldType} (E : Ev p s m args meth c RX1 cc nL ret d A) {o : Option Nat} {a : Nat} {x : Option Nat} (hd : decode cc pc = .ok (.putfield 117, 3)) (ho : o = some a) (hg : gc σ a = 2) (kk : Gk p l e R s m args below meth c d A Q nL (sp σ 108 a x) k n (pc + 3) lv st) : Gk p l e R s m args below meth c d A Q nL σ k n pc lv (va_rf x :: va_rf o :: st) :=
  r_put (ci := 1) (j := 8) (T := TX0) (rf := "FrameTalk$Frame") (σ' := sp σ 108 a x) (ty := tyX0 8) E hd wm_1_105 (fun _ h9 => h9) rfl (by decide) inw_1 (by decide) tyX0 tyX0_ok nmX0 rfl (tyX0_ok 8 (by decide)) (by cases x <;> rfl) (by cases x <;> rfl) ho hg (by simp [fl]) rfl rfl (fun b hb c => fl_sp hb c) (fun _ _ => rfl) fs_108 kk
set_option maxRecDepth 20000 in
theorem gf_X3_24 {p : Program} {l : Launch} {e : Env} {R : Room} {s : State} {m : MethodId} {args : Array Value} {below : List Frame} {meth : Method} {c : Code} {d : Dp} {A : Nat → Prop} {Q : State → Prop} {nL : Nat} {σ : Sg} {k n pc : Nat} {lv : List (Nat × Value)} {st : List Value} {cc : ByteArray} {ret : Option FieldType} (E : Ev p s m args meth c RX3 cc nL ret d A) {o : Option Nat} {a : Nat} {x : Int32} (hd : decode cc pc = .ok (.getfield 24, 3)) (ho : o = some a) (hg : gc σ a = 5) (hx : gi σ 401 a = x) (kk : Gk p l e R s m args below meth c d A Q nL σ k n (pc + 3) lv (.int x :: st)) : Gk p l e R s m args below meth c d A Q nL σ k n pc lv (va_rf o :: st) := by
  subst hx
  exact r_get (ci := 4) (j := 1) (T := TX3) (rf := "FrameTalk$Node") E hd wm_1_201 (fun _ h9 => h9) rfl (by decide) inw_4 (by decide) ho hg rfl kk
set_option maxRecDepth 20000 in
theorem cl_X1_163 {p : Program} {l : Launch} {e : Env} {R : Room} {s : State} {m : MethodId} {args : Array Value} {below : List Frame} {meth : Method} {c : Code} {d : Dp} {A : Nat → Prop} {Q : State → Prop} {nL : Nat} {σ : Sg} {k n pc : Nat} {lv : List (Nat × Value)} {cc : ByteArray} {ret : Option FieldType} (E : Ev p s m args meth c RX1 cc nL ret d A) {o : Option Nat} {b : Nat} {x1 : Int32} {r : Int32} {rest : List Value} {σ1 : Sg} (hM : Mt l d yX3_works cX3_works 2 (some .boolean) 0 0 σ [.ref b, .int x1] (some (.int r)) σ1 0 0) (hd : decode cc pc = .ok (.invokevirtual 163, 3)) (hR : 0 + 1 ≤ R.frames ∧ 8 + (2 + 11) + 0 ≤ R.locals) (hf : k + 0 ≤ R.cells ∧ n + 0 ≤ R.slots) (hcat : (rest.map fun v => v.category).sum ≤ 8) (ho : o = some b) (hg : gc σ b = 5) (kk : Gk p l e R s m args below meth c d A Q nL σ1 k n (pc + 3) lv (.int r :: rest)) : Gk p l e R s m args below meth c d A Q nL σ k n pc lv (.int x1 :: va_rf o :: rest) :=
  r_cV (As := [.int x1]) (rest := rest) (ci := 4) (nA := 1) E hM hd wm_2_209 wm_2_54 wm_2_55 wm_1_10 wm_2_56 rfl ⟨by decide, by decide, by decide +kernel⟩ rfl hR hf rfl (by decide) ho hg rfl hcat kk
set_option maxRecDepth 20000 in
theorem cl_X1_154 {p : Program} {l : Launch} {e : Env} {R : Room} {s : State} {m : MethodId} {args : Array Value} {below : List Frame} {meth : Method} {c : Code} {d : Dp} {A : Nat → Prop} {Q : State → Prop} {nL : Nat} {σ : Sg} {k n pc : Nat} {lv : List (Nat × Value)} {cc : ByteArray} {ret : Option FieldType} (E : Ev p s m args meth c RX1 cc nL ret d A) {o : Option Nat} {b : Nat} {x1 : Option Nat} {r : Int32} {rest : List Value} {σ1 : Sg} (hM : Mt l d yX1_nextOfIf cX1_nextOfIf 2 (some .int) 2 45 σ [.ref b, va_rf x1] (some (.int r)) σ1 0 0) (hd : decode cc pc = .ok (.invokevirtual 154, 3)) (hR : 2 + 1 ≤ R.frames ∧ 8 + (2 + 11) + 45 ≤ R.locals) (hf : k + 0 ≤ R.cells ∧ n + 0 ≤ R.slots) (hcat : (rest.map fun v => v.category).sum ≤ 8) (ho : o = some b) (hg : gc σ b = 3) (kk : Gk p l e R s m args below meth c d A Q nL σ1 k n (pc + 3) lv (.int r :: rest)) : Gk p l e R s m args below meth c d A Q nL σ k n pc lv (va_rf x1 :: va_rf o :: rest) :=
  r_cV (As := [va_rf x1]) (rest := rest) (ci := 2) (nA := 1) E hM hd wm_2_189 wm_2_191 wm_p_11 wm_1_2 wm_2_192 rfl ⟨by decide, by decide, by decide +kernel⟩ rfl hR hf rfl (by decide) ho hg rfl hcat kk
set_option maxRecDepth 20000 in
theorem cl_X1_157 {p : Program} {l : Launch} {e : Env} {R : Room} {s : State} {m : MethodId} {args : Array Value} {below : List Frame} {meth : Method} {c : Code} {d : Dp} {A : Nat → Prop} {Q : State → Prop} {nL : Nat} {σ : Sg} {k n pc : Nat} {lv : List (Nat × Value)} {cc : ByteArray} {ret : Option FieldType} (E : Ev p s m args meth c RX1 cc nL ret d A) {o : Option Nat} {b : Nat} {x1 : Option Nat} {r : Int32} {rest : List Value} {σ1 : Sg} (hM : Mt l d yX1_nextOfTimes cX1_nextOfTimes 2 (some .int) 2 45 σ [.ref b, va_rf x1] (some (.int r)) σ1 0 0) (hd : decode cc pc = .ok (.invokevirtual 157, 3)) (hR : 2 + 1 ≤ R.frames ∧ 8 + (2 + 11) + 45 ≤ R.locals) (hf : k + 0 ≤ R.cells ∧ n + 0 ≤ R.slots) (hcat : (rest.map fun v => v.category).sum ≤ 8) (ho : o = some b) (hg : gc σ b = 3) (kk : Gk p l e R s m args below meth c d A Q nL σ1 k n (pc + 3) lv (.int r :: rest)) : Gk p l e R s m args below meth c d A Q nL σ k n pc lv (va_rf x1 :: va_rf o :: rest) :=
  r_cV (As := [va_rf x1]) (rest := rest) (ci := 2) (nA := 1) E hM hd wm_2_201 wm_2_203 wm_p_13 wm_1_2 wm_2_204 rfl ⟨by decide, by decide, by decide +kernel⟩ rfl hR hf rfl (by decide) ho hg rfl hcat kk
set_option maxRecDepth 20000 in
theorem cl_X1_160 {p : Program} {l : Launch} {e : Env} {R : Room} {s : State} {m : MethodId} {args : Array Value} {below : List Frame} {meth : Method} {c : Code} {d : Dp} {A : Nat → Prop} {Q : State → Prop} {nL : Nat} {σ : Sg} {k n pc : Nat} {lv : List (Nat × Value)} {cc : ByteArray} {ret : Option FieldType} (E : Ev p s m args meth c RX1 cc nL ret d A) {o : Option Nat} {b : Nat} {x1 : Option Nat} {r : Int32} {rest : List Value} {σ1 : Sg} (hM : Mt l d yX1_nextInOrder cX1_nextInOrder 3 (some .int) 1 21 σ [.ref b, va_rf x1] (some (.int r)) σ1 0 0) (hd : decode cc pc = .ok (.invokevirtual 160, 3)) (hR : 1 + 1 ≤ R.frames ∧ 8 + (3 + 11) + 21 ≤ R.locals) (hf : k + 0 ≤ R.cells ∧ n + 0 ≤ R.slots) (hcat : (rest.map fun v => v.category).sum ≤ 8) (ho : o = some b) (hg : gc σ b = 3) (kk : Gk p l e R s m args below meth c d A Q nL σ1 k n (pc + 3) lv (.int r :: rest)) : Gk p l e R s m args below meth c d A Q nL σ k n pc lv (va_rf x1 :: va_rf o :: rest) :=
  r_cV (As := [va_rf x1]) (rest := rest) (ci := 2) (nA := 1) E hM hd wm_2_205 wm_2_207 wm_p_14 wm_1_2 wm_2_208 rfl ⟨by decide, by decide, by decide +kernel⟩ rfl hR hf rfl (by decide) ho hg rfl hcat kk
set_option maxRecDepth 20000 in
theorem gf_X1_197 {p : Program} {l : Launch} {e : Env} {R : Room} {s : State} {m : MethodId} {args : Array Value} {below : List Frame} {meth : Method} {c : Code} {d : Dp} {A : Nat → Prop} {Q : State → Prop} {nL : Nat} {σ : Sg} {k n pc : Nat} {lv : List (Nat × Value)} {st : List Value} {cc : ByteArray} {ret : Option FieldType} (E : Ev p s m args meth c RX1 cc nL ret d A) {o : Option Nat} {a : Nat} {x : Option Nat} (hd : decode cc pc = .ok (.getfield 197, 3)) (ho : o = some a) (hg : gc σ a = 2) (hx : gp σ 106 a = x) (kk : Gk p l e R s m args below meth c d A Q nL σ k n (pc + 3) lv (va_rf x :: st)) : Gk p l e R s m args below meth c d A Q nL σ k n pc lv (va_rf o :: st) := by
  subst hx
  exact r_get (ci := 1) (j := 6) (T := TX0) (rf := "FrameTalk$Frame") E hd wm_1_101 (fun _ h9 => h9) rfl (by decide) inw_1 (by decide) ho hg rfl kk
set_option maxRecDepth 20000 in
theorem pf_X2_22 {p : Program} {l : Launch} {e : Env} {R : Room} {s : State} {m : MethodId} {args : Array Value} {below : List Frame} {meth : Method} {c : Code} {d : Dp} {A : Nat → Prop} {Q : State → Prop} {nL : Nat} {σ : Sg} {k n pc : Nat} {lv : List (Nat × Value)} {st : List Value} {cc : ByteArray} {ret : Option FieldType} (E : Ev p s m args meth c RX2 cc nL ret d A) {o : Option Nat} {a : Nat} {x : Option Nat} (hd : decode cc pc = .ok (.putfield 22, 3)) (ho : o = some a) (hg : gc σ a = 7) (kk : Gk p l e R s m args below meth c d A Q nL (sp σ 603 a x) k n (pc + 3) lv st) : Gk p l e R s m args below meth c d A Q nL σ k n pc lv (va_rf x :: va_rf o :: st) :=
  r_put (ci := 6) (j := 3) (T := TX5) (rf := "FrameTalk$Thing") (σ' := sp σ 603 a x) (ty := tyX5 3) E hd wm_2_154 (fun _ h9 => h9) rfl (by decide) inw_6 (by decide) tyX5 tyX5_ok nmX5 rfl (tyX5_ok 3 (by decide)) (by cases x <;> rfl) (by cases x <;> rfl) ho hg (by simp [fl]) rfl rfl (fun b hb c => fl_sp hb c) (fun _ _ => rfl) fs_603 kk
set_option maxRecDepth 20000 in
theorem pf_X2_26 {p : Program} {l : Launch} {e : Env} {R : Room} {s : State} {m : MethodId} {args : Array Value} {below : List Frame} {meth : Method} {c : Code} {d : Dp} {A : Nat → Prop} {Q : State → Prop} {nL : Nat} {σ : Sg} {k n pc : Nat} {lv : List (Nat × Value)} {st : List Value} {cc : ByteArray} {ret : Option FieldType} (E : Ev p s m args meth c RX2 cc nL ret d A) {o : Option Nat} {a : Nat} {x : Option Nat} (hd : decode cc pc = .ok (.putfield 26, 3)) (ho : o = some a) (hg : gc σ a = 7) (kk : Gk p l e R s m args below meth c d A Q nL (sp σ 604 a x) k n (pc + 3) lv st) : Gk p l e R s m args below meth c d A Q nL σ k n pc lv (va_rf x :: va_rf o :: st) :=
  r_put (ci := 6) (j := 4) (T := TX5) (rf := "FrameTalk$Thing") (σ' := sp σ 604 a x) (ty := tyX5 4) E hd wm_2_157 (fun _ h9 => h9) rfl (by decide) inw_6 (by decide) tyX5 tyX5_ok nmX5 rfl (tyX5_ok 4 (by decide)) (by cases x <;> rfl) (by cases x <;> rfl) ho hg (by simp [fl]) rfl rfl (fun b hb c => fl_sp hb c) (fun _ _ => rfl) fs_604 kk
set_option maxRecDepth 20000 in
theorem gf_X1_233 {p : Program} {l : Launch} {e : Env} {R : Room} {s : State} {m : MethodId} {args : Array Value} {below : List Frame} {meth : Method} {c : Code} {d : Dp} {A : Nat → Prop} {Q : State → Prop} {nL : Nat} {σ : Sg} {k n pc : Nat} {lv : List (Nat × Value)} {st : List Value} {cc : ByteArray} {ret : Option FieldType} (E : Ev p s m args meth c RX1 cc nL ret d A) {o : Option Nat} {a : Nat} {x : Option Nat} (hd : decode cc pc = .ok (.getfield 233, 3)) (ho : o = some a) (hg : gc σ a = 7) (hx : gp σ 604 a = x) (kk : Gk p l e R s m args below meth c d A Q nL σ k n (pc + 3) lv (va_rf x :: st)) : Gk p l e R s m args below meth c d A Q nL σ k n pc lv (va_rf o :: st) := by
  subst hx
  exact r_get (ci := 6) (j := 4) (T := TX5) (rf := "FrameTalk$Thing") E hd wm_2_159 (fun _ h9 => h9) rfl (by decide) inw_6 (by decide) ho hg rfl kk
set_option maxRecDepth 20000 in
theorem gf_X1_230 {p : Program} {l : Launch} {e : Env} {R : Room} {s : State} {m : MethodId} {args : Array Value} {below : List Frame} {meth : Method} {c : Code} {d : Dp} {A : Nat → Prop} {Q : State → Prop} {nL : Nat} {σ : Sg} {k n pc : Nat} {lv : List (Nat × Value)} {st : List Value} {cc : ByteArray} {ret : Option FieldType} (E : Ev p s m args meth c RX1 cc nL ret d A) {o : Option Nat} {a : Nat} {x : Option Nat} (hd : decode cc pc = .ok (.getfield 230, 3)) (ho : o = some a) (hg : gc σ a = 7) (hx : gp σ 603 a = x) (kk : Gk p l e R s m args below meth c d A Q nL σ k n (pc + 3) lv (va_rf x :: st)) : Gk p l e R s m args below meth c d A Q nL σ k n pc lv (va_rf o :: st) := by
  subst hx
  exact r_get (ci := 6) (j := 3) (T := TX5) (rf := "FrameTalk$Thing") E hd wm_2_156 (fun _ h9 => h9) rfl (by decide) inw_6 (by decide) ho hg rfl kk
set_option maxRecDepth 20000 in
theorem gf_X1_236 {p : Program} {l : Launch} {e : Env} {R : Room} {s : State} {m : MethodId} {args : Array Value} {below : List Frame} {meth : Method} {c : Code} {d : Dp} {A : Nat → Prop} {Q : State → Prop} {nL : Nat} {σ : Sg} {k n pc : Nat} {lv : List (Nat × Value)} {st : List Value} {cc : ByteArray} {ret : Option FieldType} (E : Ev p s m args meth c RX1 cc nL ret d A) {o : Option Nat} {a : Nat} {x : Option Nat} (hd : decode cc pc = .ok (.getfield 236, 3)) (ho : o = some a) (hg : gc σ a = 2) (hx : gp σ 107 a = x) (kk : Gk p l e R s m args below meth c d A Q nL σ k n (pc + 3) lv (va_rf x :: st)) : Gk p l e R s m args below meth c d A Q nL σ k n pc lv (va_rf o :: st) := by
  subst hx
  exact r_get (ci := 1) (j := 7) (T := TX0) (rf := "FrameTalk$Frame") E hd wm_1_103 (fun _ h9 => h9) rfl (by decide) inw_1 (by decide) ho hg rfl kk
set_option maxRecDepth 20000 in
theorem pf_X1_233 {p : Program} {l : Launch} {e : Env} {R : Room} {s : State} {m : MethodId} {args : Array Value} {below : List Frame} {meth : Method} {c : Code} {d : Dp} {A : Nat → Prop} {Q : State → Prop} {nL : Nat} {σ : Sg} {k n pc : Nat} {lv : List (Nat × Value)} {st : List Value} {cc : ByteArray} {ret : Option FieldType} (E : Ev p s m args meth c RX1 cc nL ret d A) {o : Option Nat} {a : Nat} {x : Option Nat} (hd : decode cc pc = .ok (.putfield 233, 3)) (ho : o = some a) (hg : gc σ a = 7) (kk : Gk p l e R s m args below meth c d A Q nL (sp σ 604 a x) k n (pc + 3) lv st) : Gk p l e R s m args below meth c d A Q nL σ k n pc lv (va_rf x :: va_rf o :: st) :=
  r_put (ci := 6) (j := 4) (T := TX5) (rf := "FrameTalk$Thing") (σ' := sp σ 604 a x) (ty := tyX5 4) E hd wm_2_159 (fun _ h9 => h9) rfl (by decide) inw_6 (by decide) tyX5 tyX5_ok nmX5 rfl (tyX5_ok 4 (by decide)) (by cases x <;> rfl) (by cases x <;> rfl) ho hg (by simp [fl]) rfl rfl (fun b hb c => fl_sp hb c) (fun _ _ => rfl) fs_604 kk
set_option maxRecDepth 20000 in
theorem pf_X1_230 {p : Program} {l : Launch} {e : Env} {R : Room} {s : State} {m : MethodId} {args : Array Value} {below : List Frame} {meth : Method} {c : Code} {d : Dp} {A : Nat → Prop} {Q : State → Prop} {nL : Nat} {σ : Sg} {k n pc : Nat} {lv : List (Nat × Value)} {st : List Value} {cc : ByteArray} {ret : Option FieldType} (E : Ev p s m args meth c RX1 cc nL ret d A) {o : Option Nat} {a : Nat} {x : Option Nat} (hd : decode cc pc = .ok (.putfield 230, 3)) (ho : o = some a) (hg : gc σ a = 7) (kk : Gk p l e R s m args below meth c d A Q nL (sp σ 603 a x) k n (pc + 3) lv st) : Gk p l e R s m args below meth c d A Q nL σ k n pc lv (va_rf x :: va_rf o :: st) :=
  r_put (ci := 6) (j := 3) (T := TX5) (rf := "FrameTalk$Thing") (σ' := sp σ 603 a x) (ty := tyX5 3) E hd wm_2_156 (fun _ h9 => h9) rfl (by decide) inw_6 (by decide) tyX5 tyX5_ok nmX5 rfl (tyX5_ok 3 (by decide)) (by cases x <;> rfl) (by cases x <;> rfl) ho hg (by simp [fl]) rfl rfl (fun b hb c => fl_sp hb c) (fun _ _ => rfl) fs_603 kk
set_option maxRecDepth 20000 in
theorem cl_X1_239 {p : Program} {l : Launch} {e : Env} {R : Room} {s : State} {m : MethodId} {args : Array Value} {below : List Frame} {meth : Method} {c : Code} {d : Dp} {A : Nat → Prop} {Q : State → Prop} {nL : Nat} {σ : Sg} {k n pc : Nat} {lv : List (Nat × Value)} {cc : ByteArray} {ret : Option FieldType} (E : Ev p s m args meth c RX1 cc nL ret d A) {o : Option Nat} {b : Nat} {k1 n1 : Nat} {x1 : Option Nat} {x2 : Int32} {x3 : Option Nat} {r : Option Nat} {rest : List Value} {σ1 : Sg} (hM : Mt l d yX1_reckon cX1_reckon 8 (some (.object "FrameTalk$Thing")) 3 66 σ [.ref b, va_rf x1, .int x2, va_rf x3] (some (va_rf r)) σ1 k1 n1) (hd : decode cc pc = .ok (.invokevirtual 239, 3)) (hR : 3 + 1 ≤ R.frames ∧ 8 + (8 + 11) + 66 ≤ R.locals) (hf : k + k1 ≤ R.cells ∧ n + n1 ≤ R.slots) (hcat : (rest.map fun v => v.category).sum ≤ 8) (ho : o = some b) (hg : gc σ b = 3) (kk : Gk p l e R s m args below meth c d A Q nL σ1 (k + k1) (n + n1) (pc + 3) lv (va_rf r :: rest)) : Gk p l e R s m args below meth c d A Q nL σ k n pc lv (va_rf x3 :: .int x2 :: va_rf x1 :: va_rf o :: rest) :=
  r_cV (As := [va_rf x1, .int x2, va_rf x3]) (rest := rest) (ci := 2) (nA := 3) E hM hd wm_3_2 wm_3_4 wm_p_22 wm_1_2 wm_3_5 rfl ⟨by decide, by decide, by decide +kernel⟩ rfl hR hf rfl (by decide) ho hg rfl hcat kk
set_option maxRecDepth 20000 in
theorem gf_X2_29 {p : Program} {l : Launch} {e : Env} {R : Room} {s : State} {m : MethodId} {args : Array Value} {below : List Frame} {meth : Method} {c : Code} {d : Dp} {A : Nat → Prop} {Q : State → Prop} {nL : Nat} {σ : Sg} {k n pc : Nat} {lv : List (Nat × Value)} {st : List Value} {cc : ByteArray} {ret : Option FieldType} (E : Ev p s m args meth c RX2 cc nL ret d A) {o : Option Nat} {a : Nat} {x : Int32} (hd : decode cc pc = .ok (.getfield 29, 3)) (ho : o = some a) (hg : gc σ a = 4) (hx : gi σ 301 a = x) (kk : Gk p l e R s m args below meth c d A Q nL σ k n (pc + 3) lv (.int x :: st)) : Gk p l e R s m args below meth c d A Q nL σ k n pc lv (va_rf o :: st) := by
  subst hx
  exact r_get (ci := 3) (j := 1) (T := TX2) (rf := "FrameTalk$Maker") E hd wm_1_75 (fun _ h9 => h9) rfl (by decide) inw_3 (by decide) ho hg rfl kk
set_option maxRecDepth 20000 in
theorem cl_X2_32 {p : Program} {l : Launch} {e : Env} {R : Room} {s : State} {m : MethodId} {args : Array Value} {below : List Frame} {meth : Method} {c : Code} {d : Dp} {A : Nat → Prop} {Q : State → Prop} {nL : Nat} {σ : Sg} {k n pc : Nat} {lv : List (Nat × Value)} {cc : ByteArray} {ret : Option FieldType} (E : Ev p s m args meth c RX2 cc nL ret d A) {o : Option Nat} {b : Nat} {k1 n1 : Nat}  {r : Option Nat} {rest : List Value} {σ1 : Sg} (hM : Mt l d yX2_rowWithoutPlaces cX2_rowWithoutPlaces 1 (some (.object "FrameTalk$Thing")) 2 42 σ [.ref b] (some (va_rf r)) σ1 k1 n1) (hd : decode cc pc = .ok (.invokevirtual 32, 3)) (hR : 2 + 1 ≤ R.frames ∧ 8 + (1 + 11) + 42 ≤ R.locals) (hf : k + k1 ≤ R.cells ∧ n + n1 ≤ R.slots) (hcat : (rest.map fun v => v.category).sum ≤ 8) (ho : o = some b) (hg : gc σ b = 4) (kk : Gk p l e R s m args below meth c d A Q nL σ1 (k + k1) (n + n1) (pc + 3) lv (va_rf r :: rest)) : Gk p l e R s m args below meth c d A Q nL σ k n pc lv (va_rf o :: rest) :=
  r_cV (As := []) (rest := rest) (ci := 3) (nA := 0) E hM hd wm_3_22 wm_3_11 wm_3_12 wm_1_7 wm_3_13 rfl ⟨by decide, by decide, by decide +kernel⟩ rfl hR hf rfl (by decide) ho hg rfl hcat kk
set_option maxRecDepth 20000 in
theorem cl_X2_36 {p : Program} {l : Launch} {e : Env} {R : Room} {s : State} {m : MethodId} {args : Array Value} {below : List Frame} {meth : Method} {c : Code} {d : Dp} {A : Nat → Prop} {Q : State → Prop} {nL : Nat} {σ : Sg} {k n pc : Nat} {lv : List (Nat × Value)} {cc : ByteArray} {ret : Option FieldType} (E : Ev p s m args meth c RX2 cc nL ret d A) {o : Option Nat} {b : Nat} {x1 : Int32} {r : Int32} {rest : List Value} {σ1 : Sg} (hM : Mt l d yX2_hasRoomFor cX2_hasRoomFor 2 (some .boolean) 0 0 σ [.ref b, .int x1] (some (.int r)) σ1 0 0) (hd : decode cc pc = .ok (.invokevirtual 36, 3)) (hR : 0 + 1 ≤ R.frames ∧ 8 + (2 + 11) + 0 ≤ R.locals) (hf : k + 0 ≤ R.cells ∧ n + 0 ≤ R.slots) (hcat : (rest.map fun v => v.category).sum ≤ 8) (ho : o = some b) (hg : gc σ b = 4) (kk : Gk p l e R s m args below meth c d A Q nL σ1 k n (pc + 3) lv (.int r :: rest)) : Gk p l e R s m args below meth c d A Q nL σ k n pc lv (.int x1 :: va_rf o :: rest) :=
  r_cV (As := [.int x1]) (rest := rest) (ci := 3) (nA := 1) E hM hd wm_3_23 wm_3_15 wm_3_16 wm_1_7 wm_3_17 rfl ⟨by decide, by decide, by decide +kernel⟩ rfl hR hf rfl (by decide) ho hg rfl hcat kk
set_option maxRecDepth 20000 in
theorem pf_X2_29 {p : Program} {l : Launch} {e : Env} {R : Room} {s : State} {m : MethodId} {args : Array Value} {below : List Frame} {meth : Method} {c : Code} {d : Dp} {A : Nat → Prop} {Q : State → Prop} {nL : Nat} {σ : Sg} {k n pc : Nat} {lv : List (Nat × Value)} {st : List Value} {cc : ByteArray} {ret : Option FieldType} (E : Ev p s m args meth c RX2 cc nL ret d A) {o : Option Nat} {a : Nat} {x : Int32} (hd : decode cc pc = .ok (.putfield 29, 3)) (ho : o = some a) (hg : gc σ a = 4) (kk : Gk p l e R s m args below meth c d A Q nL (si σ 301 a x) k n (pc + 3) lv st) : Gk p l e R s m args below meth c d A Q nL σ k n pc lv (.int x :: va_rf o :: st) :=
  r_put (ci := 3) (j := 1) (T := TX2) (rf := "FrameTalk$Maker") (σ' := si σ 301 a x) (ty := tyX2 1) E hd wm_1_75 (fun _ h9 => h9) rfl (by decide) inw_3 (by decide) tyX2 tyX2_ok nmX2 rfl (tyX2_ok 1 (by decide)) rfl rfl ho hg (by simp [fl]) rfl rfl (fun b hb c => fl_si hb c) (fun _ _ => rfl) fs_301 kk
set_option maxRecDepth 20000 in
theorem pf_X2_40 {p : Program} {l : Launch} {e : Env} {R : Room} {s : State} {m : MethodId} {args : Array Value} {below : List Frame} {meth : Method} {c : Code} {d : Dp} {A : Nat → Prop} {Q : State → Prop} {nL : Nat} {σ : Sg} {k n pc : Nat} {lv : List (Nat × Value)} {st : List Value} {cc : ByteArray} {ret : Option FieldType} (E : Ev p s m args meth c RX2 cc nL ret d A) {o : Option Nat} {a : Nat} {x : Int32} (hd : decode cc pc = .ok (.putfield 40, 3)) (ho : o = some a) (hg : gc σ a = 7) (kk : Gk p l e R s m args below meth c d A Q nL (si σ 605 a x) k n (pc + 3) lv st) : Gk p l e R s m args below meth c d A Q nL σ k n pc lv (.int x :: va_rf o :: st) :=
  r_put (ci := 6) (j := 5) (T := TX5) (rf := "FrameTalk$Thing") (σ' := si σ 605 a x) (ty := tyX5 5) E hd wm_2_161 (fun _ h9 => h9) rfl (by decide) inw_6 (by decide) tyX5 tyX5_ok nmX5 rfl (tyX5_ok 5 (by decide)) rfl rfl ho hg (by simp [fl]) rfl rfl (fun b hb c => fl_si hb c) (fun _ _ => rfl) fs_605 kk
set_option maxRecDepth 20000 in
theorem pf_X2_43 {p : Program} {l : Launch} {e : Env} {R : Room} {s : State} {m : MethodId} {args : Array Value} {below : List Frame} {meth : Method} {c : Code} {d : Dp} {A : Nat → Prop} {Q : State → Prop} {nL : Nat} {σ : Sg} {k n pc : Nat} {lv : List (Nat × Value)} {st : List Value} {cc : ByteArray} {ret : Option FieldType} (E : Ev p s m args meth c RX2 cc nL ret d A) {o : Option Nat} {a : Nat} {x : Option Nat} (hd : decode cc pc = .ok (.putfield 43, 3)) (ho : o = some a) (hg : gc σ a = 7) (kk : Gk p l e R s m args below meth c d A Q nL (sp σ 606 a x) k n (pc + 3) lv st) : Gk p l e R s m args below meth c d A Q nL σ k n pc lv (va_rf x :: va_rf o :: st) :=
  r_put (ci := 6) (j := 6) (T := TX5) (rf := "FrameTalk$Thing") (σ' := sp σ 606 a x) (ty := tyX5 6) E hd wm_2_163 (fun _ h9 => h9) rfl (by decide) inw_6 (by decide) tyX5 tyX5_ok nmX5 rfl (tyX5_ok 6 (by decide)) (by cases x <;> rfl) (by cases x <;> rfl) ho hg (by simp [fl]) rfl rfl (fun b hb c => fl_sp hb c) (fun _ _ => rfl) fs_606 kk
set_option maxRecDepth 20000 in
theorem cl_X1_243 {p : Program} {l : Launch} {e : Env} {R : Room} {s : State} {m : MethodId} {args : Array Value} {below : List Frame} {meth : Method} {c : Code} {d : Dp} {A : Nat → Prop} {Q : State → Prop} {nL : Nat} {σ : Sg} {k n pc : Nat} {lv : List (Nat × Value)} {cc : ByteArray} {ret : Option FieldType} (E : Ev p s m args meth c RX1 cc nL ret d A) {o : Option Nat} {b : Nat} {k1 n1 : Nat}  {r : Option Nat} {rest : List Value} {σ1 : Sg} (hM : Mt l d yX2_rowWithoutPlaces cX2_rowWithoutPlaces 1 (some (.object "FrameTalk$Thing")) 2 42 σ [.ref b] (some (va_rf r)) σ1 k1 n1) (hd : decode cc pc = .ok (.invokevirtual 243, 3)) (hR : 2 + 1 ≤ R.frames ∧ 8 + (1 + 11) + 42 ≤ R.locals) (hf : k + k1 ≤ R.cells ∧ n + n1 ≤ R.slots) (hcat : (rest.map fun v => v.category).sum ≤ 8) (ho : o = some b) (hg : gc σ b = 4) (kk : Gk p l e R s m args below meth c d A Q nL σ1 (k + k1) (n + n1) (pc + 3) lv (va_rf r :: rest)) : Gk p l e R s m args below meth c d A Q nL σ k n pc lv (va_rf o :: rest) :=
  r_cV (As := []) (rest := rest) (ci := 3) (nA := 0) E hM hd wm_3_10 wm_3_11 wm_3_12 wm_1_7 wm_3_13 rfl ⟨by decide, by decide, by decide +kernel⟩ rfl hR hf rfl (by decide) ho hg rfl hcat kk
set_option maxRecDepth 20000 in
theorem cl_X1_247 {p : Program} {l : Launch} {e : Env} {R : Room} {s : State} {m : MethodId} {args : Array Value} {below : List Frame} {meth : Method} {c : Code} {d : Dp} {A : Nat → Prop} {Q : State → Prop} {nL : Nat} {σ : Sg} {k n pc : Nat} {lv : List (Nat × Value)} {cc : ByteArray} {ret : Option FieldType} (E : Ev p s m args meth c RX1 cc nL ret d A) {o : Option Nat} {b : Nat} {x1 : Int32} {r : Int32} {rest : List Value} {σ1 : Sg} (hM : Mt l d yX2_hasRoomFor cX2_hasRoomFor 2 (some .boolean) 0 0 σ [.ref b, .int x1] (some (.int r)) σ1 0 0) (hd : decode cc pc = .ok (.invokevirtual 247, 3)) (hR : 0 + 1 ≤ R.frames ∧ 8 + (2 + 11) + 0 ≤ R.locals) (hf : k + 0 ≤ R.cells ∧ n + 0 ≤ R.slots) (hcat : (rest.map fun v => v.category).sum ≤ 8) (ho : o = some b) (hg : gc σ b = 4) (kk : Gk p l e R s m args below meth c d A Q nL σ1 k n (pc + 3) lv (.int r :: rest)) : Gk p l e R s m args below meth c d A Q nL σ k n pc lv (.int x1 :: va_rf o :: rest) :=
  r_cV (As := [.int x1]) (rest := rest) (ci := 3) (nA := 1) E hM hd wm_3_14 wm_3_15 wm_3_16 wm_1_7 wm_3_17 rfl ⟨by decide, by decide, by decide +kernel⟩ rfl hR hf rfl (by decide) ho hg rfl hcat kk
set_option maxRecDepth 20000 in
theorem cl_X1_250 {p : Program} {l : Launch} {e : Env} {R : Room} {s : State} {m : MethodId} {args : Array Value} {below : List Frame} {meth : Method} {c : Code} {d : Dp} {A : Nat → Prop} {Q : State → Prop} {nL : Nat} {σ : Sg} {k n pc : Nat} {lv : List (Nat × Value)} {cc : ByteArray} {ret : Option FieldType} (E : Ev p s m args meth c RX1 cc nL ret d A) {o : Option Nat} {b : Nat} {k1 n1 : Nat} {x1 : Int32} {x2 : Int32} {r : Option Nat} {rest : List Value} {σ1 : Sg} (hM : Mt l d yX2_row cX2_row 4 (some (.object "FrameTalk$Thing")) 3 62 σ [.ref b, .int x1, .int x2] (some (va_rf r)) σ1 k1 n1) (hd : decode cc pc = .ok (.invokevirtual 250, 3)) (hR : 3 + 1 ≤ R.frames ∧ 8 + (4 + 11) + 62 ≤ R.locals) (hf : k + k1 ≤ R.cells ∧ n + n1 ≤ R.slots) (hcat : (rest.map fun v => v.category).sum ≤ 8) (ho : o = some b) (hg : gc σ b = 4) (kk : Gk p l e R s m args below meth c d A Q nL σ1 (k + k1) (n + n1) (pc + 3) lv (va_rf r :: rest)) : Gk p l e R s m args below meth c d A Q nL σ k n pc lv (.int x2 :: .int x1 :: va_rf o :: rest) :=
  r_cV (As := [.int x1, .int x2]) (rest := rest) (ci := 3) (nA := 2) E hM hd wm_3_18 wm_3_19 wm_3_20 wm_1_7 wm_3_21 rfl ⟨by decide, by decide, by decide +kernel⟩ rfl hR hf rfl (by decide) ho hg rfl hcat kk
set_option maxRecDepth 20000 in
theorem gf_X5_18 {p : Program} {l : Launch} {e : Env} {R : Room} {s : State} {m : MethodId} {args : Array Value} {below : List Frame} {meth : Method} {c : Code} {d : Dp} {A : Nat → Prop} {Q : State → Prop} {nL : Nat} {σ : Sg} {k n pc : Nat} {lv : List (Nat × Value)} {st : List Value} {cc : ByteArray} {ret : Option FieldType} (E : Ev p s m args meth c RX5 cc nL ret d A) {o : Option Nat} {a : Nat} {x : Option Nat} (hd : decode cc pc = .ok (.getfield 18, 3)) (ho : o = some a) (hg : gc σ a = 7) (hx : gp σ 606 a = x) (kk : Gk p l e R s m args below meth c d A Q nL σ k n (pc + 3) lv (va_rf x :: st)) : Gk p l e R s m args below meth c d A Q nL σ k n pc lv (va_rf o :: st) := by
  subst hx
  exact r_get (ci := 6) (j := 6) (T := TX5) (rf := "FrameTalk$Thing") E hd wm_2_162 (fun _ h9 => h9) rfl (by decide) inw_6 (by decide) ho hg rfl kk
set_option maxRecDepth 20000 in
theorem cl_X1_252 {p : Program} {l : Launch} {e : Env} {R : Room} {s : State} {m : MethodId} {args : Array Value} {below : List Frame} {meth : Method} {c : Code} {d : Dp} {A : Nat → Prop} {Q : State → Prop} {nL : Nat} {σ : Sg} {k n pc : Nat} {lv : List (Nat × Value)} {cc : ByteArray} {ret : Option FieldType} (E : Ev p s m args meth c RX1 cc nL ret d A) {o : Option Nat} {b : Nat} {x1 : Int32} {r : Int32} {rest : List Value} {σ1 : Sg} (hM : Mt l d yX5_hasPlace cX5_hasPlace 2 (some .boolean) 0 0 σ [.ref b, .int x1] (some (.int r)) σ1 0 0) (hd : decode cc pc = .ok (.invokevirtual 252, 3)) (hR : 0 + 1 ≤ R.frames ∧ 8 + (2 + 11) + 0 ≤ R.locals) (hf : k + 0 ≤ R.cells ∧ n + 0 ≤ R.slots) (hcat : (rest.map fun v => v.category).sum ≤ 8) (ho : o = some b) (hg : gc σ b = 7) (kk : Gk p l e R s m args below meth c d A Q nL σ1 k n (pc + 3) lv (.int r :: rest)) : Gk p l e R s m args below meth c d A Q nL σ k n pc lv (.int x1 :: va_rf o :: rest) :=
  r_cV (As := [.int x1]) (rest := rest) (ci := 6) (nA := 1) E hM hd wm_3_32 wm_3_33 wm_3_34 wm_1_17 wm_3_35 rfl ⟨by decide, by decide, by decide +kernel⟩ rfl hR hf rfl (by decide) ho hg rfl hcat kk
set_option maxRecDepth 20000 in
theorem gf_X1_255 {p : Program} {l : Launch} {e : Env} {R : Room} {s : State} {m : MethodId} {args : Array Value} {below : List Frame} {meth : Method} {c : Code} {d : Dp} {A : Nat → Prop} {Q : State → Prop} {nL : Nat} {σ : Sg} {k n pc : Nat} {lv : List (Nat × Value)} {st : List Value} {cc : ByteArray} {ret : Option FieldType} (E : Ev p s m args meth c RX1 cc nL ret d A) {o : Option Nat} {a : Nat} {x : Option Nat} (hd : decode cc pc = .ok (.getfield 255, 3)) (ho : o = some a) (hg : gc σ a = 7) (hx : gp σ 606 a = x) (kk : Gk p l e R s m args below meth c d A Q nL σ k n (pc + 3) lv (va_rf x :: st)) : Gk p l e R s m args below meth c d A Q nL σ k n pc lv (va_rf o :: st) := by
  subst hx
  exact r_get (ci := 6) (j := 6) (T := TX5) (rf := "FrameTalk$Thing") E hd wm_2_164 (fun _ h9 => h9) rfl (by decide) inw_6 (by decide) ho hg rfl kk
set_option maxRecDepth 20000 in
theorem gf_X5_22 {p : Program} {l : Launch} {e : Env} {R : Room} {s : State} {m : MethodId} {args : Array Value} {below : List Frame} {meth : Method} {c : Code} {d : Dp} {A : Nat → Prop} {Q : State → Prop} {nL : Nat} {σ : Sg} {k n pc : Nat} {lv : List (Nat × Value)} {st : List Value} {cc : ByteArray} {ret : Option FieldType} (E : Ev p s m args meth c RX5 cc nL ret d A) {o : Option Nat} {a : Nat} {x : Int32} (hd : decode cc pc = .ok (.getfield 22, 3)) (ho : o = some a) (hg : gc σ a = 7) (hx : gi σ 605 a = x) (kk : Gk p l e R s m args below meth c d A Q nL σ k n (pc + 3) lv (.int x :: st)) : Gk p l e R s m args below meth c d A Q nL σ k n pc lv (va_rf o :: st) := by
  subst hx
  exact r_get (ci := 6) (j := 5) (T := TX5) (rf := "FrameTalk$Thing") E hd wm_2_160 (fun _ h9 => h9) rfl (by decide) inw_6 (by decide) ho hg rfl kk
set_option maxRecDepth 20000 in
theorem cl_X5_25 {p : Program} {l : Launch} {e : Env} {R : Room} {s : State} {m : MethodId} {args : Array Value} {below : List Frame} {meth : Method} {c : Code} {d : Dp} {A : Nat → Prop} {Q : State → Prop} {nL : Nat} {σ : Sg} {k n pc : Nat} {lv : List (Nat × Value)} {cc : ByteArray} {ret : Option FieldType} (E : Ev p s m args meth c RX5 cc nL ret d A) {o : Option Nat} {b : Nat} {x1 : Int32} {r : Int32} {rest : List Value} {σ1 : Sg} (hM : Mt l d yX5_isA cX5_isA 2 (some .boolean) 0 0 σ [.ref b, .int x1] (some (.int r)) σ1 0 0) (hd : decode cc pc = .ok (.invokevirtual 25, 3)) (hR : 0 + 1 ≤ R.frames ∧ 8 + (2 + 11) + 0 ≤ R.locals) (hf : k + 0 ≤ R.cells ∧ n + 0 ≤ R.slots) (hcat : (rest.map fun v => v.category).sum ≤ 8) (ho : o = some b) (hg : gc σ b = 7) (kk : Gk p l e R s m args below meth c d A Q nL σ1 k n (pc + 3) lv (.int r :: rest)) : Gk p l e R s m args below meth c d A Q nL σ k n pc lv (.int x1 :: va_rf o :: rest) :=
  r_cV (As := [.int x1]) (rest := rest) (ci := 6) (nA := 1) E hM hd wm_3_40 wm_2_198 wm_2_199 wm_1_17 wm_2_200 rfl ⟨by decide, by decide, by decide +kernel⟩ rfl hR hf rfl (by decide) ho hg rfl hcat kk
set_option maxRecDepth 20000 in
theorem cl_X1_258 {p : Program} {l : Launch} {e : Env} {R : Room} {s : State} {m : MethodId} {args : Array Value} {below : List Frame} {meth : Method} {c : Code} {d : Dp} {A : Nat → Prop} {Q : State → Prop} {nL : Nat} {σ : Sg} {k n pc : Nat} {lv : List (Nat × Value)} {cc : ByteArray} {ret : Option FieldType} (E : Ev p s m args meth c RX1 cc nL ret d A) {o : Option Nat} {b : Nat} {x1 : Option Nat} {r : Int32} {rest : List Value} {σ1 : Sg} (hM : Mt l d yX1_lacksPlace cX1_lacksPlace 2 (some .boolean) 2 45 σ [.ref b, va_rf x1] (some (.int r)) σ1 0 0) (hd : decode cc pc = .ok (.invokevirtual 258, 3)) (hR : 2 + 1 ≤ R.frames ∧ 8 + (2 + 11) + 45 ≤ R.locals) (hf : k + 0 ≤ R.cells ∧ n + 0 ≤ R.slots) (hcat : (rest.map fun v => v.category).sum ≤ 8) (ho : o = some b) (hg : gc σ b = 3) (kk : Gk p l e R s m args below meth c d A Q nL σ1 k n (pc + 3) lv (.int r :: rest)) : Gk p l e R s m args below meth c d A Q nL σ k n pc lv (va_rf x1 :: va_rf o :: rest) :=
  r_cV (As := [va_rf x1]) (rest := rest) (ci := 2) (nA := 1) E hM hd wm_3_28 wm_3_30 wm_p_25 wm_1_2 wm_3_31 rfl ⟨by decide, by decide, by decide +kernel⟩ rfl hR hf rfl (by decide) ho hg rfl hcat kk
set_option maxRecDepth 20000 in
theorem cl_X1_261 {p : Program} {l : Launch} {e : Env} {R : Room} {s : State} {m : MethodId} {args : Array Value} {below : List Frame} {meth : Method} {c : Code} {d : Dp} {A : Nat → Prop} {Q : State → Prop} {nL : Nat} {σ : Sg} {k n pc : Nat} {lv : List (Nat × Value)} {cc : ByteArray} {ret : Option FieldType} (E : Ev p s m args meth c RX1 cc nL ret d A) {o : Option Nat} {b : Nat} {x1 : Option Nat} {r : Int32} {rest : List Value} {σ1 : Sg} (hM : Mt l d yX5_isRowFor cX5_isRowFor 2 (some .boolean) 1 21 σ [.ref b, va_rf x1] (some (.int r)) σ1 0 0) (hd : decode cc pc = .ok (.invokevirtual 261, 3)) (hR : 1 + 1 ≤ R.frames ∧ 8 + (2 + 11) + 21 ≤ R.locals) (hf : k + 0 ≤ R.cells ∧ n + 0 ≤ R.slots) (hcat : (rest.map fun v => v.category).sum ≤ 8) (ho : o = some b) (hg : gc σ b = 7) (kk : Gk p l e R s m args below meth c d A Q nL σ1 k n (pc + 3) lv (.int r :: rest)) : Gk p l e R s m args below meth c d A Q nL σ k n pc lv (va_rf x1 :: va_rf o :: rest) :=
  r_cV (As := [va_rf x1]) (rest := rest) (ci := 6) (nA := 1) E hM hd wm_3_36 wm_3_37 wm_3_38 wm_1_17 wm_3_39 rfl ⟨by decide, by decide, by decide +kernel⟩ rfl hR hf rfl (by decide) ho hg rfl hcat kk
set_option maxRecDepth 20000 in
theorem gf_X1_55 {p : Program} {l : Launch} {e : Env} {R : Room} {s : State} {m : MethodId} {args : Array Value} {below : List Frame} {meth : Method} {c : Code} {d : Dp} {A : Nat → Prop} {Q : State → Prop} {nL : Nat} {σ : Sg} {k n pc : Nat} {lv : List (Nat × Value)} {st : List Value} {cc : ByteArray} {ret : Option FieldType} (E : Ev p s m args meth c RX1 cc nL ret d A) {o : Option Nat} {a : Nat} {x : Option Nat} (hd : decode cc pc = .ok (.getfield 55, 3)) (ho : o = some a) (hg : gc σ a = 3) (hx : gp σ 205 a = x) (kk : Gk p l e R s m args below meth c d A Q nL σ k n (pc + 3) lv (va_rf x :: st)) : Gk p l e R s m args below meth c d A Q nL σ k n pc lv (va_rf o :: st) := by
  subst hx
  exact r_get (ci := 2) (j := 5) (T := TX1) (rf := "FrameTalk$Machine") E hd wm_1_135 (fun _ h9 => h9) rfl (by decide) inw_2 (by decide) ho hg rfl kk
set_option maxRecDepth 20000 in
theorem gf_X1_191 {p : Program} {l : Launch} {e : Env} {R : Room} {s : State} {m : MethodId} {args : Array Value} {below : List Frame} {meth : Method} {c : Code} {d : Dp} {A : Nat → Prop} {Q : State → Prop} {nL : Nat} {σ : Sg} {k n pc : Nat} {lv : List (Nat × Value)} {st : List Value} {cc : ByteArray} {ret : Option FieldType} (E : Ev p s m args meth c RX1 cc nL ret d A) {o : Option Nat} {a : Nat} {x : Int64} (hd : decode cc pc = .ok (.getfield 191, 3)) (ho : o = some a) (hg : gc σ a = 5) (hx : gj σ 402 a = x) (kk : Gk p l e R s m args below meth c d A Q nL σ k n (pc + 3) lv (.long x :: st)) : Gk p l e R s m args below meth c d A Q nL σ k n pc lv (va_rf o :: st) := by
  subst hx
  exact r_get (ci := 4) (j := 2) (T := TX3) (rf := "FrameTalk$Node") E hd wm_1_204 (fun _ h9 => h9) rfl (by decide) inw_4 (by decide) ho hg rfl kk
set_option maxRecDepth 20000 in
theorem cl_X1_194 {p : Program} {l : Launch} {e : Env} {R : Room} {s : State} {m : MethodId} {args : Array Value} {below : List Frame} {meth : Method} {c : Code} {d : Dp} {A : Nat → Prop} {Q : State → Prop} {nL : Nat} {σ : Sg} {k n pc : Nat} {lv : List (Nat × Value)} {cc : ByteArray} {ret : Option FieldType} (E : Ev p s m args meth c RX1 cc nL ret d A) {o : Option Nat} {b : Nat} {x1 : Option Nat} {r : Option Nat} {rest : List Value} {σ1 : Sg} (hM : Mt l d yX1_useSlot cX1_useSlot 3 (some (.object "FrameTalk$Thing")) 1 22 σ [.ref b, va_rf x1] (some (va_rf r)) σ1 0 0) (hd : decode cc pc = .ok (.invokevirtual 194, 3)) (hR : 1 + 1 ≤ R.frames ∧ 8 + (3 + 11) + 22 ≤ R.locals) (hf : k + 0 ≤ R.cells ∧ n + 0 ≤ R.slots) (hcat : (rest.map fun v => v.category).sum ≤ 8) (ho : o = some b) (hg : gc σ b = 3) (kk : Gk p l e R s m args below meth c d A Q nL σ1 k n (pc + 3) lv (va_rf r :: rest)) : Gk p l e R s m args below meth c d A Q nL σ k n pc lv (va_rf x1 :: va_rf o :: rest) :=
  r_cV (As := [va_rf x1]) (rest := rest) (ci := 2) (nA := 1) E hM hd wm_2_214 wm_2_216 wm_p_16 wm_1_2 wm_2_217 rfl ⟨by decide, by decide, by decide +kernel⟩ rfl hR hf rfl (by decide) ho hg rfl hcat kk
set_option maxRecDepth 20000 in
theorem cl_X1_200 {p : Program} {l : Launch} {e : Env} {R : Room} {s : State} {m : MethodId} {args : Array Value} {below : List Frame} {meth : Method} {c : Code} {d : Dp} {A : Nat → Prop} {Q : State → Prop} {nL : Nat} {σ : Sg} {k n pc : Nat} {lv : List (Nat × Value)} {cc : ByteArray} {ret : Option FieldType} (E : Ev p s m args meth c RX1 cc nL ret d A) {o : Option Nat} {b : Nat} {k1 n1 : Nat} {x1 : Int32} {x2 : Option Nat} {x3 : Option Nat} {r : Option Nat} {rest : List Value} {σ1 : Sg} (hM : Mt l d yX2_withFields cX2_withFields 5 (some (.object "FrameTalk$Thing")) 2 42 σ [.ref b, .int x1, va_rf x2, va_rf x3] (some (va_rf r)) σ1 k1 n1) (hd : decode cc pc = .ok (.invokevirtual 200, 3)) (hR : 2 + 1 ≤ R.frames ∧ 8 + (5 + 11) + 42 ≤ R.locals) (hf : k + k1 ≤ R.cells ∧ n + n1 ≤ R.slots) (hcat : (rest.map fun v => v.category).sum ≤ 8) (ho : o = some b) (hg : gc σ b = 4) (kk : Gk p l e R s m args below meth c d A Q nL σ1 (k + k1) (n + n1) (pc + 3) lv (va_rf r :: rest)) : Gk p l e R s m args below meth c d A Q nL σ k n pc lv (va_rf x3 :: va_rf x2 :: .int x1 :: va_rf o :: rest) :=
  r_cV (As := [.int x1, va_rf x2, va_rf x3]) (rest := rest) (ci := 3) (nA := 3) E hM hd wm_2_222 wm_2_223 wm_2_224 wm_1_7 wm_2_225 rfl ⟨by decide, by decide, by decide +kernel⟩ rfl hR hf rfl (by decide) ho hg rfl hcat kk
set_option maxRecDepth 20000 in
theorem cl_X1_204 {p : Program} {l : Launch} {e : Env} {R : Room} {s : State} {m : MethodId} {args : Array Value} {below : List Frame} {meth : Method} {c : Code} {d : Dp} {A : Nat → Prop} {Q : State → Prop} {nL : Nat} {σ : Sg} {k n pc : Nat} {lv : List (Nat × Value)} {cc : ByteArray} {ret : Option FieldType} (E : Ev p s m args meth c RX1 cc nL ret d A) {o : Option Nat} {b : Nat} {x1 : Option Nat} {r : Option Nat} {rest : List Value} {σ1 : Sg} (hM : Mt l d yX1_field cX1_field 2 (some (.object "FrameTalk$Thing")) 2 45 σ [.ref b, va_rf x1] (some (va_rf r)) σ1 0 0) (hd : decode cc pc = .ok (.invokevirtual 204, 3)) (hR : 2 + 1 ≤ R.frames ∧ 8 + (2 + 11) + 45 ≤ R.locals) (hf : k + 0 ≤ R.cells ∧ n + 0 ≤ R.slots) (hcat : (rest.map fun v => v.category).sum ≤ 8) (ho : o = some b) (hg : gc σ b = 3) (kk : Gk p l e R s m args below meth c d A Q nL σ1 k n (pc + 3) lv (va_rf r :: rest)) : Gk p l e R s m args below meth c d A Q nL σ k n pc lv (va_rf x1 :: va_rf o :: rest) :=
  r_cV (As := [va_rf x1]) (rest := rest) (ci := 2) (nA := 1) E hM hd wm_2_226 wm_2_228 wm_p_18 wm_1_2 wm_2_229 rfl ⟨by decide, by decide, by decide +kernel⟩ rfl hR hf rfl (by decide) ho hg rfl hcat kk
set_option maxRecDepth 20000 in
theorem cl_X1_207 {p : Program} {l : Launch} {e : Env} {R : Room} {s : State} {m : MethodId} {args : Array Value} {below : List Frame} {meth : Method} {c : Code} {d : Dp} {A : Nat → Prop} {Q : State → Prop} {nL : Nat} {σ : Sg} {k n pc : Nat} {lv : List (Nat × Value)} {cc : ByteArray} {ret : Option FieldType} (E : Ev p s m args meth c RX1 cc nL ret d A) {o : Option Nat} {b : Nat} {x1 : Option Nat} {r : Option Nat} {rest : List Value} {σ1 : Sg} (hM : Mt l d yX1_store cX1_store 2 (some (.object "FrameTalk$Thing")) 2 45 σ [.ref b, va_rf x1] (some (va_rf r)) σ1 0 0) (hd : decode cc pc = .ok (.invokevirtual 207, 3)) (hR : 2 + 1 ≤ R.frames ∧ 8 + (2 + 11) + 45 ≤ R.locals) (hf : k + 0 ≤ R.cells ∧ n + 0 ≤ R.slots) (hcat : (rest.map fun v => v.category).sum ≤ 8) (ho : o = some b) (hg : gc σ b = 3) (kk : Gk p l e R s m args below meth c d A Q nL σ1 k n (pc + 3) lv (va_rf r :: rest)) : Gk p l e R s m args below meth c d A Q nL σ k n pc lv (va_rf x1 :: va_rf o :: rest) :=
  r_cV (As := [va_rf x1]) (rest := rest) (ci := 2) (nA := 1) E hM hd wm_2_230 wm_2_232 wm_p_19 wm_1_2 wm_2_233 rfl ⟨by decide, by decide, by decide +kernel⟩ rfl hR hf rfl (by decide) ho hg rfl hcat kk
set_option maxRecDepth 20000 in
theorem cl_X1_210 {p : Program} {l : Launch} {e : Env} {R : Room} {s : State} {m : MethodId} {args : Array Value} {below : List Frame} {meth : Method} {c : Code} {d : Dp} {A : Nat → Prop} {Q : State → Prop} {nL : Nat} {σ : Sg} {k n pc : Nat} {lv : List (Nat × Value)} {cc : ByteArray} {ret : Option FieldType} (E : Ev p s m args meth c RX1 cc nL ret d A) {o : Option Nat} {b : Nat} {x1 : Option Nat} {r : Option Nat} {rest : List Value} {σ1 : Sg} (hM : Mt l d yX1_side cX1_side 2 (some (.object "FrameTalk$Thing")) 2 45 σ [.ref b, va_rf x1] (some (va_rf r)) σ1 0 0) (hd : decode cc pc = .ok (.invokevirtual 210, 3)) (hR : 2 + 1 ≤ R.frames ∧ 8 + (2 + 11) + 45 ≤ R.locals) (hf : k + 0 ≤ R.cells ∧ n + 0 ≤ R.slots) (hcat : (rest.map fun v => v.category).sum ≤ 8) (ho : o = some b) (hg : gc σ b = 3) (kk : Gk p l e R s m args below meth c d A Q nL σ1 k n (pc + 3) lv (va_rf r :: rest)) : Gk p l e R s m args below meth c d A Q nL σ k n pc lv (va_rf x1 :: va_rf o :: rest) :=
  r_cV (As := [va_rf x1]) (rest := rest) (ci := 2) (nA := 1) E hM hd wm_2_234 wm_2_236 wm_p_20 wm_1_2 wm_2_237 rfl ⟨by decide, by decide, by decide +kernel⟩ rfl hR hf rfl (by decide) ho hg rfl hcat kk
set_option maxRecDepth 20000 in
theorem cl_X1_213 {p : Program} {l : Launch} {e : Env} {R : Room} {s : State} {m : MethodId} {args : Array Value} {below : List Frame} {meth : Method} {c : Code} {d : Dp} {A : Nat → Prop} {Q : State → Prop} {nL : Nat} {σ : Sg} {k n pc : Nat} {lv : List (Nat × Value)} {cc : ByteArray} {ret : Option FieldType} (E : Ev p s m args meth c RX1 cc nL ret d A) {o : Option Nat} {b : Nat} {k1 n1 : Nat} {x1 : Option Nat} {r : Option Nat} {rest : List Value} {σ1 : Sg} (hM : Mt l d yX1_send cX1_send 4 (some (.object "FrameTalk$Thing")) 4 93 σ [.ref b, va_rf x1] (some (va_rf r)) σ1 k1 n1) (hd : decode cc pc = .ok (.invokevirtual 213, 3)) (hR : 4 + 1 ≤ R.frames ∧ 8 + (4 + 11) + 93 ≤ R.locals) (hf : k + k1 ≤ R.cells ∧ n + n1 ≤ R.slots) (hcat : (rest.map fun v => v.category).sum ≤ 8) (ho : o = some b) (hg : gc σ b = 3) (kk : Gk p l e R s m args below meth c d A Q nL σ1 (k + k1) (n + n1) (pc + 3) lv (va_rf r :: rest)) : Gk p l e R s m args below meth c d A Q nL σ k n pc lv (va_rf x1 :: va_rf o :: rest) :=
  r_cV (As := [va_rf x1]) (rest := rest) (ci := 2) (nA := 1) E hM hd wm_2_238 wm_3_0 wm_p_21 wm_1_2 wm_3_1 rfl ⟨by decide, by decide, by decide +kernel⟩ rfl hR hf rfl (by decide) ho hg rfl hcat kk
set_option maxRecDepth 20000 in
theorem cl_X1_216 {p : Program} {l : Launch} {e : Env} {R : Room} {s : State} {m : MethodId} {args : Array Value} {below : List Frame} {meth : Method} {c : Code} {d : Dp} {A : Nat → Prop} {Q : State → Prop} {nL : Nat} {σ : Sg} {k n pc : Nat} {lv : List (Nat × Value)} {cc : ByteArray} {ret : Option FieldType} (E : Ev p s m args meth c RX1 cc nL ret d A) {o : Option Nat} {b : Nat} {k1 n1 : Nat} {x1 : Option Nat} {r : Option Nat} {rest : List Value} {σ1 : Sg} (hM : Mt l d yX1_row cX1_row 4 (some (.object "FrameTalk$Thing")) 4 85 σ [.ref b, va_rf x1] (some (va_rf r)) σ1 k1 n1) (hd : decode cc pc = .ok (.invokevirtual 216, 3)) (hR : 4 + 1 ≤ R.frames ∧ 8 + (4 + 11) + 85 ≤ R.locals) (hf : k + k1 ≤ R.cells ∧ n + n1 ≤ R.slots) (hcat : (rest.map fun v => v.category).sum ≤ 8) (ho : o = some b) (hg : gc σ b = 3) (kk : Gk p l e R s m args below meth c d A Q nL σ1 (k + k1) (n + n1) (pc + 3) lv (va_rf r :: rest)) : Gk p l e R s m args below meth c d A Q nL σ k n pc lv (va_rf x1 :: va_rf o :: rest) :=
  r_cV (As := [va_rf x1]) (rest := rest) (ci := 2) (nA := 1) E hM hd wm_3_6 wm_3_8 wm_p_23 wm_1_2 wm_3_9 rfl ⟨by decide, by decide, by decide +kernel⟩ rfl hR hf rfl (by decide) ho hg rfl hcat kk
set_option maxRecDepth 20000 in
theorem cl_X1_219 {p : Program} {l : Launch} {e : Env} {R : Room} {s : State} {m : MethodId} {args : Array Value} {below : List Frame} {meth : Method} {c : Code} {d : Dp} {A : Nat → Prop} {Q : State → Prop} {nL : Nat} {σ : Sg} {k n pc : Nat} {lv : List (Nat × Value)} {cc : ByteArray} {ret : Option FieldType} (E : Ev p s m args meth c RX1 cc nL ret d A) {o : Option Nat} {b : Nat} {x1 : Option Nat} {r : Option Nat} {rest : List Value} {σ1 : Sg} (hM : Mt l d yX1_put cX1_put 2 (some (.object "FrameTalk$Thing")) 3 66 σ [.ref b, va_rf x1] (some (va_rf r)) σ1 0 0) (hd : decode cc pc = .ok (.invokevirtual 219, 3)) (hR : 3 + 1 ≤ R.frames ∧ 8 + (2 + 11) + 66 ≤ R.locals) (hf : k + 0 ≤ R.cells ∧ n + 0 ≤ R.slots) (hcat : (rest.map fun v => v.category).sum ≤ 8) (ho : o = some b) (hg : gc σ b = 3) (kk : Gk p l e R s m args below meth c d A Q nL σ1 k n (pc + 3) lv (va_rf r :: rest)) : Gk p l e R s m args below meth c d A Q nL σ k n pc lv (va_rf x1 :: va_rf o :: rest) :=
  r_cV (As := [va_rf x1]) (rest := rest) (ci := 2) (nA := 1) E hM hd wm_3_24 wm_3_26 wm_p_24 wm_1_2 wm_3_27 rfl ⟨by decide, by decide, by decide +kernel⟩ rfl hR hf rfl (by decide) ho hg rfl hcat kk
set_option maxRecDepth 20000 in
theorem cl_X1_222 {p : Program} {l : Launch} {e : Env} {R : Room} {s : State} {m : MethodId} {args : Array Value} {below : List Frame} {meth : Method} {c : Code} {d : Dp} {A : Nat → Prop} {Q : State → Prop} {nL : Nat} {σ : Sg} {k n pc : Nat} {lv : List (Nat × Value)} {cc : ByteArray} {ret : Option FieldType} (E : Ev p s m args meth c RX1 cc nL ret d A) {o : Option Nat} {b : Nat} {x1 : Option Nat} {r : Option Nat} {rest : List Value} {σ1 : Sg} (hM : Mt l d yX1_at cX1_at 2 (some (.object "FrameTalk$Thing")) 3 66 σ [.ref b, va_rf x1] (some (va_rf r)) σ1 0 0) (hd : decode cc pc = .ok (.invokevirtual 222, 3)) (hR : 3 + 1 ≤ R.frames ∧ 8 + (2 + 11) + 66 ≤ R.locals) (hf : k + 0 ≤ R.cells ∧ n + 0 ≤ R.slots) (hcat : (rest.map fun v => v.category).sum ≤ 8) (ho : o = some b) (hg : gc σ b = 3) (kk : Gk p l e R s m args below meth c d A Q nL σ1 k n (pc + 3) lv (va_rf r :: rest)) : Gk p l e R s m args below meth c d A Q nL σ k n pc lv (va_rf x1 :: va_rf o :: rest) :=
  r_cV (As := [va_rf x1]) (rest := rest) (ci := 2) (nA := 1) E hM hd wm_3_41 wm_3_43 wm_p_26 wm_1_2 wm_3_44 rfl ⟨by decide, by decide, by decide +kernel⟩ rfl hR hf rfl (by decide) ho hg rfl hcat kk
set_option maxRecDepth 20000 in
theorem cl_X1_224 {p : Program} {l : Launch} {e : Env} {R : Room} {s : State} {m : MethodId} {args : Array Value} {below : List Frame} {meth : Method} {c : Code} {d : Dp} {A : Nat → Prop} {Q : State → Prop} {nL : Nat} {σ : Sg} {k n pc : Nat} {lv : List (Nat × Value)} {cc : ByteArray} {ret : Option FieldType} (E : Ev p s m args meth c RX1 cc nL ret d A) {o : Option Nat} {b : Nat} {k1 n1 : Nat} {x1 : Option Nat} {r : Option Nat} {rest : List Value} {σ1 : Sg} (hM : Mt l d yX1_size cX1_size 2 (some (.object "FrameTalk$Thing")) 3 66 σ [.ref b, va_rf x1] (some (va_rf r)) σ1 k1 n1) (hd : decode cc pc = .ok (.invokevirtual 224, 3)) (hR : 3 + 1 ≤ R.frames ∧ 8 + (2 + 11) + 66 ≤ R.locals) (hf : k + k1 ≤ R.cells ∧ n + n1 ≤ R.slots) (hcat : (rest.map fun v => v.category).sum ≤ 8) (ho : o = some b) (hg : gc σ b = 3) (kk : Gk p l e R s m args below meth c d A Q nL σ1 (k + k1) (n + n1) (pc + 3) lv (va_rf r :: rest)) : Gk p l e R s m args below meth c d A Q nL σ k n pc lv (va_rf x1 :: va_rf o :: rest) :=
  r_cV (As := [va_rf x1]) (rest := rest) (ci := 2) (nA := 1) E hM hd wm_3_45 wm_3_47 wm_p_27 wm_1_2 wm_3_48 rfl ⟨by decide, by decide, by decide +kernel⟩ rfl hR hf rfl (by decide) ho hg rfl hcat kk
set_option maxRecDepth 20000 in
theorem cl_X1_227 {p : Program} {l : Launch} {e : Env} {R : Room} {s : State} {m : MethodId} {args : Array Value} {below : List Frame} {meth : Method} {c : Code} {d : Dp} {A : Nat → Prop} {Q : State → Prop} {nL : Nat} {σ : Sg} {k n pc : Nat} {lv : List (Nat × Value)} {cc : ByteArray} {ret : Option FieldType} (E : Ev p s m args meth c RX1 cc nL ret d A) {o : Option Nat} {b : Nat} {k1 n1 : Nat} {x1 : Option Nat} {r : Option Nat} {rest : List Value} {σ1 : Sg} (hM : Mt l d yX1_hold cX1_hold 2 (some (.object "FrameTalk$Thing")) 3 66 σ [.ref b, va_rf x1] (some (va_rf r)) σ1 k1 n1) (hd : decode cc pc = .ok (.invokevirtual 227, 3)) (hR : 3 + 1 ≤ R.frames ∧ 8 + (2 + 11) + 66 ≤ R.locals) (hf : k + k1 ≤ R.cells ∧ n + n1 ≤ R.slots) (hcat : (rest.map fun v => v.category).sum ≤ 8) (ho : o = some b) (hg : gc σ b = 3) (kk : Gk p l e R s m args below meth c d A Q nL σ1 (k + k1) (n + n1) (pc + 3) lv (va_rf r :: rest)) : Gk p l e R s m args below meth c d A Q nL σ k n pc lv (va_rf x1 :: va_rf o :: rest) :=
  r_cV (As := [va_rf x1]) (rest := rest) (ci := 2) (nA := 1) E hM hd wm_3_49 wm_3_51 wm_p_28 wm_1_2 wm_3_52 rfl ⟨by decide, by decide, by decide +kernel⟩ rfl hR hf rfl (by decide) ho hg rfl hcat kk
set_option maxRecDepth 20000 in
theorem gf_X1_117 {p : Program} {l : Launch} {e : Env} {R : Room} {s : State} {m : MethodId} {args : Array Value} {below : List Frame} {meth : Method} {c : Code} {d : Dp} {A : Nat → Prop} {Q : State → Prop} {nL : Nat} {σ : Sg} {k n pc : Nat} {lv : List (Nat × Value)} {st : List Value} {cc : ByteArray} {ret : Option FieldType} (E : Ev p s m args meth c RX1 cc nL ret d A) {o : Option Nat} {a : Nat} {x : Option Nat} (hd : decode cc pc = .ok (.getfield 117, 3)) (ho : o = some a) (hg : gc σ a = 2) (hx : gp σ 108 a = x) (kk : Gk p l e R s m args below meth c d A Q nL σ k n (pc + 3) lv (va_rf x :: st)) : Gk p l e R s m args below meth c d A Q nL σ k n pc lv (va_rf o :: st) := by
  subst hx
  exact r_get (ci := 1) (j := 8) (T := TX0) (rf := "FrameTalk$Frame") E hd wm_1_105 (fun _ h9 => h9) rfl (by decide) inw_1 (by decide) ho hg rfl kk
set_option maxRecDepth 20000 in
theorem cl_X1_132 {p : Program} {l : Launch} {e : Env} {R : Room} {s : State} {m : MethodId} {args : Array Value} {below : List Frame} {meth : Method} {c : Code} {d : Dp} {A : Nat → Prop} {Q : State → Prop} {nL : Nat} {σ : Sg} {k n pc : Nat} {lv : List (Nat × Value)} {cc : ByteArray} {ret : Option FieldType} (E : Ev p s m args meth c RX1 cc nL ret d A) {o : Option Nat} {b : Nat} {x1 : Option Nat}  {rest : List Value} {σ1 : Sg} (hM : Mt l d yX0_receive cX0_receive 2 none 0 0 σ [.ref b, va_rf x1] none σ1 0 0) (hd : decode cc pc = .ok (.invokevirtual 132, 3)) (hR : 0 + 1 ≤ R.frames ∧ 8 + (2 + 11) + 0 ≤ R.locals) (hf : k + 0 ≤ R.cells ∧ n + 0 ≤ R.slots) (hcat : (rest.map fun v => v.category).sum ≤ 8) (ho : o = some b) (hg : gc σ b = 2) (kk : Gk p l e R s m args below meth c d A Q nL σ1 k n (pc + 3) lv rest) : Gk p l e R s m args below meth c d A Q nL σ k n pc lv (va_rf x1 :: va_rf o :: rest) :=
  r_cV (As := [va_rf x1]) (rest := rest) (ci := 1) (nA := 1) E hM hd wm_3_57 wm_3_58 wm_3_59 wm_1_8 wm_3_60 rfl ⟨by decide, by decide, by decide +kernel⟩ rfl hR hf rfl (by decide) ho hg rfl hcat kk
set_option maxRecDepth 20000 in
theorem cl_X1_102 {p : Program} {l : Launch} {e : Env} {R : Room} {s : State} {m : MethodId} {args : Array Value} {below : List Frame} {meth : Method} {c : Code} {d : Dp} {A : Nat → Prop} {Q : State → Prop} {nL : Nat} {σ : Sg} {k n pc : Nat} {lv : List (Nat × Value)} {cc : ByteArray} {ret : Option FieldType} (E : Ev p s m args meth c RX1 cc nL ret d A) {o : Option Nat} {b : Nat} {x1 : Option Nat} {r : Int32} {rest : List Value} {σ1 : Sg} (hM : Mt l d yX1_nextPart cX1_nextPart 2 (some .int) 3 66 σ [.ref b, va_rf x1] (some (.int r)) σ1 0 0) (hd : decode cc pc = .ok (.invokevirtual 102, 3)) (hR : 3 + 1 ≤ R.frames ∧ 8 + (2 + 11) + 66 ≤ R.locals) (hf : k + 0 ≤ R.cells ∧ n + 0 ≤ R.slots) (hcat : (rest.map fun v => v.category).sum ≤ 8) (ho : o = some b) (hg : gc σ b = 3) (kk : Gk p l e R s m args below meth c d A Q nL σ1 k n (pc + 3) lv (.int r :: rest)) : Gk p l e R s m args below meth c d A Q nL σ k n pc lv (va_rf x1 :: va_rf o :: rest) :=
  r_cV (As := [va_rf x1]) (rest := rest) (ci := 2) (nA := 1) E hM hd wm_2_185 wm_2_187 wm_p_10 wm_1_2 wm_2_188 rfl ⟨by decide, by decide, by decide +kernel⟩ rfl hR hf rfl (by decide) ho hg rfl hcat kk
set_option maxRecDepth 20000 in
theorem cl_X1_106 {p : Program} {l : Launch} {e : Env} {R : Room} {s : State} {m : MethodId} {args : Array Value} {below : List Frame} {meth : Method} {c : Code} {d : Dp} {A : Nat → Prop} {Q : State → Prop} {nL : Nat} {σ : Sg} {k n pc : Nat} {lv : List (Nat × Value)} {cc : ByteArray} {ret : Option FieldType} (E : Ev p s m args meth c RX1 cc nL ret d A) {o : Option Nat} {b : Nat} {k1 n1 : Nat} {x1 : Option Nat} {r : Option Nat} {rest : List Value} {σ1 : Sg} (hM : Mt l d yX1_finish cX1_finish 2 (some (.object "FrameTalk$Thing")) 5 116 σ [.ref b, va_rf x1] (some (va_rf r)) σ1 k1 n1) (hd : decode cc pc = .ok (.invokevirtual 106, 3)) (hR : 5 + 1 ≤ R.frames ∧ 8 + (2 + 11) + 116 ≤ R.locals) (hf : k + k1 ≤ R.cells ∧ n + n1 ≤ R.slots) (hcat : (rest.map fun v => v.category).sum ≤ 8) (ho : o = some b) (hg : gc σ b = 3) (kk : Gk p l e R s m args below meth c d A Q nL σ1 (k + k1) (n + n1) (pc + 3) lv (va_rf r :: rest)) : Gk p l e R s m args below meth c d A Q nL σ k n pc lv (va_rf x1 :: va_rf o :: rest) :=
  r_cV (As := [va_rf x1]) (rest := rest) (ci := 2) (nA := 1) E hM hd wm_2_210 wm_2_212 wm_p_15 wm_1_2 wm_2_213 rfl ⟨by decide, by decide, by decide +kernel⟩ rfl hR hf rfl (by decide) ho hg rfl hcat kk
set_option maxRecDepth 20000 in
theorem cl_X1_110 {p : Program} {l : Launch} {e : Env} {R : Room} {s : State} {m : MethodId} {args : Array Value} {below : List Frame} {meth : Method} {c : Code} {d : Dp} {A : Nat → Prop} {Q : State → Prop} {nL : Nat} {σ : Sg} {k n pc : Nat} {lv : List (Nat × Value)} {cc : ByteArray} {ret : Option FieldType} (E : Ev p s m args meth c RX1 cc nL ret d A) {o : Option Nat} {b : Nat} {x1 : Option Nat} {x2 : Option Nat}  {rest : List Value} {σ1 : Sg} (hM : Mt l d yX1_close cX1_close 3 none 1 21 σ [.ref b, va_rf x1, va_rf x2] none σ1 0 0) (hd : decode cc pc = .ok (.invokevirtual 110, 3)) (hR : 1 + 1 ≤ R.frames ∧ 8 + (3 + 11) + 21 ≤ R.locals) (hf : k + 0 ≤ R.cells ∧ n + 0 ≤ R.slots) (hcat : (rest.map fun v => v.category).sum ≤ 8) (ho : o = some b) (hg : gc σ b = 3) (kk : Gk p l e R s m args below meth c d A Q nL σ1 k n (pc + 3) lv rest) : Gk p l e R s m args below meth c d A Q nL σ k n pc lv (va_rf x2 :: va_rf x1 :: va_rf o :: rest) :=
  r_cV (As := [va_rf x1, va_rf x2]) (rest := rest) (ci := 2) (nA := 2) E hM hd wm_3_53 wm_3_55 wm_p_29 wm_1_2 wm_3_56 rfl ⟨by decide, by decide, by decide +kernel⟩ rfl hR hf rfl (by decide) ho hg rfl hcat kk
set_option maxRecDepth 20000 in
theorem cl_X1_98 {p : Program} {l : Launch} {e : Env} {R : Room} {s : State} {m : MethodId} {args : Array Value} {below : List Frame} {meth : Method} {c : Code} {d : Dp} {A : Nat → Prop} {Q : State → Prop} {nL : Nat} {σ : Sg} {k n pc : Nat} {lv : List (Nat × Value)} {cc : ByteArray} {ret : Option FieldType} (E : Ev p s m args meth c RX1 cc nL ret d A) {o : Option Nat} {b : Nat} {k1 n1 : Nat} {x1 : Option Nat}  {rest : List Value} {σ1 : Sg} (hM : Mt l d yX1_passFault cX1_passFault 2 none 5 108 σ [.ref b, va_rf x1] none σ1 k1 n1) (hd : decode cc pc = .ok (.invokevirtual 98, 3)) (hR : 5 + 1 ≤ R.frames ∧ 8 + (2 + 11) + 108 ≤ R.locals) (hf : k + k1 ≤ R.cells ∧ n + n1 ≤ R.slots) (hcat : (rest.map fun v => v.category).sum ≤ 8) (ho : o = some b) (hg : gc σ b = 3) (kk : Gk p l e R s m args below meth c d A Q nL σ1 (k + k1) (n + n1) (pc + 3) lv rest) : Gk p l e R s m args below meth c d A Q nL σ k n pc lv (va_rf x1 :: va_rf o :: rest) :=
  r_cV (As := [va_rf x1]) (rest := rest) (ci := 2) (nA := 1) E hM hd wm_2_126 wm_2_128 wm_p_7 wm_1_2 wm_2_129 rfl ⟨by decide, by decide, by decide +kernel⟩ rfl hR hf rfl (by decide) ho hg rfl hcat kk
set_option maxRecDepth 20000 in
theorem pf_X1_59 {p : Program} {l : Launch} {e : Env} {R : Room} {s : State} {m : MethodId} {args : Array Value} {below : List Frame} {meth : Method} {c : Code} {d : Dp} {A : Nat → Prop} {Q : State → Prop} {nL : Nat} {σ : Sg} {k n pc : Nat} {lv : List (Nat × Value)} {st : List Value} {cc : ByteArray} {ret : Option FieldType} (E : Ev p s m args meth c RX1 cc nL ret d A) {o : Option Nat} {a : Nat} {x : Int32} (hd : decode cc pc = .ok (.putfield 59, 3)) (ho : o = some a) (hg : gc σ a = 3) (kk : Gk p l e R s m args below meth c d A Q nL (si σ 207 a x) k n (pc + 3) lv st) : Gk p l e R s m args below meth c d A Q nL σ k n pc lv (.int x :: va_rf o :: st) :=
  r_put (ci := 2) (j := 7) (T := TX1) (rf := "FrameTalk$Machine") (σ' := si σ 207 a x) (ty := tyX1 7) E hd wm_1_137 (fun _ h9 => h9) rfl (by decide) inw_2 (by decide) tyX1 tyX1_ok nmX1 rfl (tyX1_ok 7 (by decide)) rfl rfl ho hg (by simp [fl]) rfl rfl (fun b hb c => fl_si hb c) (fun _ _ => rfl) fs_207 kk
set_option maxRecDepth 20000 in
theorem pf_X3_11 {p : Program} {l : Launch} {e : Env} {R : Room} {s : State} {m : MethodId} {args : Array Value} {below : List Frame} {meth : Method} {c : Code} {d : Dp} {A : Nat → Prop} {Q : State → Prop} {nL : Nat} {σ : Sg} {k n pc : Nat} {lv : List (Nat × Value)} {st : List Value} {cc : ByteArray} {ret : Option FieldType} (E : Ev p s m args meth c RX3 cc nL ret d A) {o : Option Nat} {a : Nat} {x : Int32} (hd : decode cc pc = .ok (.putfield 11, 3)) (ho : o = some a) (hg : gc σ a = 5) (kk : Gk p l e R s m args below meth c d A Q nL (si σ 403 a x) k n (pc + 3) lv st) : Gk p l e R s m args below meth c d A Q nL σ k n pc lv (.int x :: va_rf o :: st) :=
  r_put (ci := 4) (j := 3) (T := TX3) (rf := "FrameTalk$Node") (σ' := si σ 403 a x) (ty := tyX3 3) E hd wm_1_205 (fun _ h9 => h9) rfl (by decide) inw_4 (by decide) tyX3 tyX3_ok nmX3 rfl (tyX3_ok 3 (by decide)) rfl rfl ho hg (by simp [fl]) rfl rfl (fun b hb c => fl_si hb c) (fun _ _ => rfl) fs_403 kk
set_option maxRecDepth 20000 in
theorem pf_X3_15 {p : Program} {l : Launch} {e : Env} {R : Room} {s : State} {m : MethodId} {args : Array Value} {below : List Frame} {meth : Method} {c : Code} {d : Dp} {A : Nat → Prop} {Q : State → Prop} {nL : Nat} {σ : Sg} {k n pc : Nat} {lv : List (Nat × Value)} {st : List Value} {cc : ByteArray} {ret : Option FieldType} (E : Ev p s m args meth c RX3 cc nL ret d A) {o : Option Nat} {a : Nat} {x : Int32} (hd : decode cc pc = .ok (.putfield 15, 3)) (ho : o = some a) (hg : gc σ a = 5) (kk : Gk p l e R s m args below meth c d A Q nL (si σ 404 a x) k n (pc + 3) lv st) : Gk p l e R s m args below meth c d A Q nL σ k n pc lv (.int x :: va_rf o :: st) :=
  r_put (ci := 4) (j := 4) (T := TX3) (rf := "FrameTalk$Node") (σ' := si σ 404 a x) (ty := tyX3 4) E hd wm_1_206 (fun _ h9 => h9) rfl (by decide) inw_4 (by decide) tyX3 tyX3_ok nmX3 rfl (tyX3_ok 4 (by decide)) rfl rfl ho hg (by simp [fl]) rfl rfl (fun b hb c => fl_si hb c) (fun _ _ => rfl) fs_404 kk
set_option maxRecDepth 20000 in
theorem pf_X3_18 {p : Program} {l : Launch} {e : Env} {R : Room} {s : State} {m : MethodId} {args : Array Value} {below : List Frame} {meth : Method} {c : Code} {d : Dp} {A : Nat → Prop} {Q : State → Prop} {nL : Nat} {σ : Sg} {k n pc : Nat} {lv : List (Nat × Value)} {st : List Value} {cc : ByteArray} {ret : Option FieldType} (E : Ev p s m args meth c RX3 cc nL ret d A) {o : Option Nat} {a : Nat} {x : Int32} (hd : decode cc pc = .ok (.putfield 18, 3)) (ho : o = some a) (hg : gc σ a = 5) (kk : Gk p l e R s m args below meth c d A Q nL (si σ 405 a x) k n (pc + 3) lv st) : Gk p l e R s m args below meth c d A Q nL σ k n pc lv (.int x :: va_rf o :: st) :=
  r_put (ci := 4) (j := 5) (T := TX3) (rf := "FrameTalk$Node") (σ' := si σ 405 a x) (ty := tyX3 5) E hd wm_1_207 (fun _ h9 => h9) rfl (by decide) inw_4 (by decide) tyX3 tyX3_ok nmX3 rfl (tyX3_ok 5 (by decide)) rfl rfl ho hg (by simp [fl]) rfl rfl (fun b hb c => fl_si hb c) (fun _ _ => rfl) fs_405 kk
set_option maxRecDepth 20000 in
theorem pf_X3_21 {p : Program} {l : Launch} {e : Env} {R : Room} {s : State} {m : MethodId} {args : Array Value} {below : List Frame} {meth : Method} {c : Code} {d : Dp} {A : Nat → Prop} {Q : State → Prop} {nL : Nat} {σ : Sg} {k n pc : Nat} {lv : List (Nat × Value)} {st : List Value} {cc : ByteArray} {ret : Option FieldType} (E : Ev p s m args meth c RX3 cc nL ret d A) {o : Option Nat} {a : Nat} {x : Int32} (hini : meth.name = "<init>") (hd : decode cc pc = .ok (.putfield 21, 3)) (ho : o = some a) (hg : gc σ a = 5) (kk : Gk p l e R s m args below meth c d A Q nL (si σ 400 a x) k n (pc + 3) lv st) : Gk p l e R s m args below meth c d A Q nL σ k n pc lv (.int x :: va_rf o :: st) :=
  r_putF (ci := 4) (j := 0) (T := TX3) (rf := "FrameTalk$Node") (σ' := si σ 400 a x) (ty := tyX3 0) E hd wm_1_198 (fun _ h9 => h9) rfl (by decide) inw_4 (by decide) tyX3 tyX3_ok nmX3 rfl hini rfl (tyX3_ok 0 (by decide)) rfl rfl ho hg (by simp [fl]) rfl rfl (fun b hb c => fl_si hb c) (fun _ _ => rfl) fs_400 kk
set_option maxRecDepth 20000 in
theorem pf_X3_24 {p : Program} {l : Launch} {e : Env} {R : Room} {s : State} {m : MethodId} {args : Array Value} {below : List Frame} {meth : Method} {c : Code} {d : Dp} {A : Nat → Prop} {Q : State → Prop} {nL : Nat} {σ : Sg} {k n pc : Nat} {lv : List (Nat × Value)} {st : List Value} {cc : ByteArray} {ret : Option FieldType} (E : Ev p s m args meth c RX3 cc nL ret d A) {o : Option Nat} {a : Nat} {x : Int32} (hini : meth.name = "<init>") (hd : decode cc pc = .ok (.putfield 24, 3)) (ho : o = some a) (hg : gc σ a = 5) (kk : Gk p l e R s m args below meth c d A Q nL (si σ 401 a x) k n (pc + 3) lv st) : Gk p l e R s m args below meth c d A Q nL σ k n pc lv (.int x :: va_rf o :: st) :=
  r_putF (ci := 4) (j := 1) (T := TX3) (rf := "FrameTalk$Node") (σ' := si σ 401 a x) (ty := tyX3 1) E hd wm_1_201 (fun _ h9 => h9) rfl (by decide) inw_4 (by decide) tyX3 tyX3_ok nmX3 rfl hini rfl (tyX3_ok 1 (by decide)) rfl rfl ho hg (by simp [fl]) rfl rfl (fun b hb c => fl_si hb c) (fun _ _ => rfl) fs_401 kk
set_option maxRecDepth 20000 in
theorem pf_X3_27 {p : Program} {l : Launch} {e : Env} {R : Room} {s : State} {m : MethodId} {args : Array Value} {below : List Frame} {meth : Method} {c : Code} {d : Dp} {A : Nat → Prop} {Q : State → Prop} {nL : Nat} {σ : Sg} {k n pc : Nat} {lv : List (Nat × Value)} {st : List Value} {cc : ByteArray} {ret : Option FieldType} (E : Ev p s m args meth c RX3 cc nL ret d A) {o : Option Nat} {a : Nat} {x : Int64} (hini : meth.name = "<init>") (hd : decode cc pc = .ok (.putfield 27, 3)) (ho : o = some a) (hg : gc σ a = 5) (kk : Gk p l e R s m args below meth c d A Q nL (sj σ 402 a x) k n (pc + 3) lv st) : Gk p l e R s m args below meth c d A Q nL σ k n pc lv (.long x :: va_rf o :: st) :=
  r_putF (ci := 4) (j := 2) (T := TX3) (rf := "FrameTalk$Node") (σ' := sj σ 402 a x) (ty := tyX3 2) E hd wm_1_203 (fun _ h9 => h9) rfl (by decide) inw_4 (by decide) tyX3 tyX3_ok nmX3 rfl hini rfl (tyX3_ok 2 (by decide)) rfl rfl ho hg (by simp [fl]) rfl rfl (fun b hb c => fl_sj hb c) (fun _ _ => rfl) fs_402 kk
set_option maxRecDepth 20000 in
theorem cl_J7_300 {p : Program} {l : Launch} {e : Env} {R : Room} {s : State} {m : MethodId} {args : Array Value} {below : List Frame} {meth : Method} {c : Code} {d : Dp} {A : Nat → Prop} {Q : State → Prop} {nL : Nat} {σ : Sg} {k n pc : Nat} {lv : List (Nat × Value)} {cc : ByteArray} {ret : Option FieldType} (E : Ev p s m args meth c RJ7 cc nL ret d A) {k1 n1 : Nat} {x1 : Option Nat} {x2 : Int32} {x3 : Option Nat} {r : Option Nat} {rest : List Value} {σ1 : Sg} (hM : Mt l d yJ7_copyOf_6403c cJ7_copyOf_6403c 4 (some (.array (.object "java/lang/Object"))) 1 60 σ [va_rf x1, .int x2, va_rf x3] (some (va_rf r)) σ1 k1 n1) (hd : decode cc pc = .ok (.invokestatic 300, 3)) (hR : 1 + 1 ≤ R.frames ∧ 8 + (4 + 11) + 60 ≤ R.locals) (hf : k + k1 ≤ R.cells ∧ n + n1 ≤ R.slots) (hcat : (rest.map fun v => v.category).sum ≤ 8) (kk : Gk p l e R s m args below meth c d A Q nL σ1 (k + k1) (n + n1) (pc + 3) lv (va_rf r :: rest)) : Gk p l e R s m args below meth c d A Q nL σ k n pc lv (va_rf x3 :: .int x2 :: va_rf x1 :: rest) :=
  r_cS (As := [va_rf x1, .int x2, va_rf x3]) (rest := rest) (nA := 3) E hM hd wm_2_27 wm_2_28 wm_1_13 wm_2_29 ⟨by decide, by decide, by decide +kernel⟩ rfl hR hf rfl hcat kk
set_option maxRecDepth 20000 in
theorem cl_Jx4a65c_73 {p : Program} {l : Launch} {e : Env} {R : Room} {s : State} {m : MethodId} {args : Array Value} {below : List Frame} {meth : Method} {c : Code} {d : Dp} {A : Nat → Prop} {Q : State → Prop} {nL : Nat} {σ : Sg} {k n pc : Nat} {lv : List (Nat × Value)} {cc : ByteArray} {ret : Option FieldType} (E : Ev p s m args meth c RJx4a65c cc nL ret d A) {k1 n1 : Nat} {x1 : Int32} {x2 : Int32} {x3 : Int32} {r : Int32} {rest : List Value} {σ1 : Sg} (hM : Mt l d yJ8_newLength_cabcc cJ8_newLength_cabcc 4 (some .int) 1 21 σ [.int x1, .int x2, .int x3] (some (.int r)) σ1 k1 n1) (hd : decode cc pc = .ok (.invokestatic 73, 3)) (hR : 1 + 1 ≤ R.frames ∧ 8 + (4 + 11) + 21 ≤ R.locals) (hf : k + k1 ≤ R.cells ∧ n + n1 ≤ R.slots) (hcat : (rest.map fun v => v.category).sum ≤ 8) (kk : Gk p l e R s m args below meth c d A Q nL σ1 (k + k1) (n + n1) (pc + 3) lv (.int r :: rest)) : Gk p l e R s m args below meth c d A Q nL σ k n pc lv (.int x3 :: .int x2 :: .int x1 :: rest) :=
  r_cS (As := [.int x1, .int x2, .int x3]) (rest := rest) (nA := 3) E hM hd wm_2_1 wm_2_2 wm_1_11 wm_2_3 ⟨by decide, by decide, by decide +kernel⟩ rfl hR hf rfl hcat kk
set_option maxRecDepth 20000 in
theorem cl_Jx4a65c_66 {p : Program} {l : Launch} {e : Env} {R : Room} {s : State} {m : MethodId} {args : Array Value} {below : List Frame} {meth : Method} {c : Code} {d : Dp} {A : Nat → Prop} {Q : State → Prop} {nL : Nat} {σ : Sg} {k n pc : Nat} {lv : List (Nat × Value)} {cc : ByteArray} {ret : Option FieldType} (E : Ev p s m args meth c RJx4a65c cc nL ret d A) {k1 n1 : Nat} {x1 : Option Nat} {x2 : Int32} {r : Option Nat} {rest : List Value} {σ1 : Sg} (hM : Mt l d yJ7_copyOf_1904c cJ7_copyOf_1904c 2 (some (.array (.object "java/lang/Object"))) 2 83 σ [va_rf x1, .int x2] (some (va_rf r)) σ1 k1 n1) (hd : decode cc pc = .ok (.invokestatic 66, 3)) (hR : 2 + 1 ≤ R.frames ∧ 8 + (2 + 11) + 83 ≤ R.locals) (hf : k + k1 ≤ R.cells ∧ n + n1 ≤ R.slots) (hcat : (rest.map fun v => v.category).sum ≤ 8) (kk : Gk p l e R s m args below meth c d A Q nL σ1 (k + k1) (n + n1) (pc + 3) lv (va_rf r :: rest)) : Gk p l e R s m args below meth c d A Q nL σ k n pc lv (.int x2 :: va_rf x1 :: rest) :=
  r_cS (As := [va_rf x1, .int x2]) (rest := rest) (nA := 2) E hM hd wm_2_11 wm_2_12 wm_1_13 wm_2_13 ⟨by decide, by decide, by decide +kernel⟩ rfl hR hf rfl hcat kk
set_option maxRecDepth 20000 in
theorem cl_Jx4a65c_69 {p : Program} {l : Launch} {e : Env} {R : Room} {s : State} {m : MethodId} {args : Array Value} {below : List Frame} {meth : Method} {c : Code} {d : Dp} {A : Nat → Prop} {Q : State → Prop} {nL : Nat} {σ : Sg} {k n pc : Nat} {lv : List (Nat × Value)} {cc : ByteArray} {ret : Option FieldType} (E : Ev p s m args meth c RJx4a65c cc nL ret d A) {o : Option Nat} {b : Nat} {k1 n1 : Nat} {x1 : Int32} {r : Option Nat} {rest : List Value} {σ1 : Sg} (hM : Mt l d yJx4a65c_grow_92f84 cJx4a65c_grow_92f84 4 (some (.array (.object "java/lang/Object"))) 3 104 σ [.ref b, .int x1] (some (va_rf r)) σ1 k1 n1) (hd : decode cc pc = .ok (.invokevirtual 69, 3)) (hR : 3 + 1 ≤ R.frames ∧ 8 + (4 + 11) + 104 ≤ R.locals) (hf : k + k1 ≤ R.cells ∧ n + n1 ≤ R.slots) (hcat : (rest.map fun v => v.category).sum ≤ 8) (ho : o = some b) (hg : gc σ b = 1) (kk : Gk p l e R s m args below meth c d A Q nL σ1 (k + k1) (n + n1) (pc + 3) lv (va_rf r :: rest)) : Gk p l e R s m args below meth c d A Q nL σ k n pc lv (.int x1 :: va_rf o :: rest) :=
  r_cV (As := [.int x1]) (rest := rest) (ci := 0) (nA := 1) E hM hd wm_1_237 wm_1_239 wm_p_3 wm_1_6 wm_2_0 rfl ⟨by decide, by decide, by decide +kernel⟩ rfl hR hf rfl (by decide) ho hg rfl hcat kk
set_option maxRecDepth 20000 in
theorem pf_Jx4a65c_48 {p : Program} {l : Launch} {e : Env} {R : Room} {s : State} {m : MethodId} {args : Array Value} {below : List Frame} {meth : Method} {c : Code} {d : Dp} {A : Nat → Prop} {Q : State → Prop} {nL : Nat} {σ : Sg} {k n pc : Nat} {lv : List (Nat × Value)} {st : List Value} {cc : ByteArray} {ret : Option FieldType} (E : Ev p s m args meth c RJx4a65c cc nL ret d A) {o : Option Nat} {a : Nat} {x : Int32} (hd : decode cc pc = .ok (.putfield 48, 3)) (ho : o = some a) (hg : gc σ a = 1) (kk : Gk p l e R s m args below meth c d A Q nL (si σ 2 a x) k n (pc + 3) lv st) : Gk p l e R s m args below meth c d A Q nL σ k n pc lv (.int x :: va_rf o :: st) :=
  r_put (ci := 0) (j := 2) (T := TJx4a65c) (rf := "java/util/ArrayList") (σ' := si σ 2 a x) (ty := tyJx4a65c 2) E hd wm_1_53 (fun _ h9 => h9) rfl (by decide) inw_0 (by decide) tyJx4a65c tyJx4a65c_ok nmJx4a65c rfl (tyJx4a65c_ok 2 (by decide)) rfl rfl ho hg (by simp [fl]) rfl rfl (fun b hb c => fl_si hb c) (fun _ _ => rfl) fs_2 kk
set_option maxRecDepth 20000 in
theorem cl_Jx4a65c_129 {p : Program} {l : Launch} {e : Env} {R : Room} {s : State} {m : MethodId} {args : Array Value} {below : List Frame} {meth : Method} {c : Code} {d : Dp} {A : Nat → Prop} {Q : State → Prop} {nL : Nat} {σ : Sg} {k n pc : Nat} {lv : List (Nat × Value)} {cc : ByteArray} {ret : Option FieldType} (E : Ev p s m args meth c RJx4a65c cc nL ret d A) {o : Option Nat} {b : Nat} {k1 n1 : Nat}  {r : Option Nat} {rest : List Value} {σ1 : Sg} (hM : Mt l d yJx4a65c_grow_d5877 cJx4a65c_grow_d5877 1 (some (.array (.object "java/lang/Object"))) 4 127 σ [.ref b] (some (va_rf r)) σ1 k1 n1) (hd : decode cc pc = .ok (.invokevirtual 129, 3)) (hR : 4 + 1 ≤ R.frames ∧ 8 + (1 + 11) + 127 ≤ R.locals) (hf : k + k1 ≤ R.cells ∧ n + n1 ≤ R.slots) (hcat : (rest.map fun v => v.category).sum ≤ 8) (ho : o = some b) (hg : gc σ b = 1) (kk : Gk p l e R s m args below meth c d A Q nL σ1 (k + k1) (n + n1) (pc + 3) lv (va_rf r :: rest)) : Gk p l e R s m args below meth c d A Q nL σ k n pc lv (va_rf o :: rest) :=
  r_cV (As := []) (rest := rest) (ci := 0) (nA := 0) E hM hd wm_1_233 wm_1_235 wm_p_2 wm_1_6 wm_1_236 rfl ⟨by decide, by decide, by decide +kernel⟩ rfl hR hf rfl (by decide) ho hg rfl hcat kk
set_option maxRecDepth 20000 in
theorem gf_Jx4a65c_63 {p : Program} {l : Launch} {e : Env} {R : Room} {s : State} {m : MethodId} {args : Array Value} {below : List Frame} {meth : Method} {c : Code} {d : Dp} {A : Nat → Prop} {Q : State → Prop} {nL : Nat} {σ : Sg} {k n pc : Nat} {lv : List (Nat × Value)} {st : List Value} {cc : ByteArray} {ret : Option FieldType} (E : Ev p s m args meth c RJx4a65c cc nL ret d A) {o : Option Nat} {a : Nat} {x : Int32} (hd : decode cc pc = .ok (.getfield 63, 3)) (ho : o = some a) (hg : gc σ a = 1) (hx : gi σ 0 a = x) (kk : Gk p l e R s m args below meth c d A Q nL σ k n (pc + 3) lv (.int x :: st)) : Gk p l e R s m args below meth c d A Q nL σ k n pc lv (va_rf o :: st) := by
  subst hx
  exact r_get (ci := 0) (j := 0) (T := TJx4a65c) (rf := "java/util/ArrayList") E hd wm_1_55 (u_same (E.ts _ wm_1_56)) rfl (by decide) inw_0 (by decide) ho hg rfl kk
set_option maxRecDepth 20000 in
theorem pf_Jx4a65c_63 {p : Program} {l : Launch} {e : Env} {R : Room} {s : State} {m : MethodId} {args : Array Value} {below : List Frame} {meth : Method} {c : Code} {d : Dp} {A : Nat → Prop} {Q : State → Prop} {nL : Nat} {σ : Sg} {k n pc : Nat} {lv : List (Nat × Value)} {st : List Value} {cc : ByteArray} {ret : Option FieldType} (E : Ev p s m args meth c RJx4a65c cc nL ret d A) {o : Option Nat} {a : Nat} {x : Int32} (hd : decode cc pc = .ok (.putfield 63, 3)) (ho : o = some a) (hg : gc σ a = 1) (kk : Gk p l e R s m args below meth c d A Q nL (si σ 0 a x) k n (pc + 3) lv st) : Gk p l e R s m args below meth c d A Q nL σ k n pc lv (.int x :: va_rf o :: st) :=
  r_put (ci := 0) (j := 0) (T := TJx4a65c) (rf := "java/util/ArrayList") (σ' := si σ 0 a x) (ty := tyJx4a65c 0) E hd wm_1_55 (u_same (E.ts _ wm_1_56)) rfl (by decide) inw_0 (by decide) tyJx4a65c tyJx4a65c_ok nmJx4a65c rfl (tyJx4a65c_ok 0 (by decide)) rfl rfl ho hg (by simp [fl]) rfl rfl (fun b hb c => fl_si hb c) (fun _ _ => rfl) fs_0 kk
set_option maxRecDepth 20000 in
theorem cl_Jx4a65c_131 {p : Program} {l : Launch} {e : Env} {R : Room} {s : State} {m : MethodId} {args : Array Value} {below : List Frame} {meth : Method} {c : Code} {d : Dp} {A : Nat → Prop} {Q : State → Prop} {nL : Nat} {σ : Sg} {k n pc : Nat} {lv : List (Nat × Value)} {cc : ByteArray} {ret : Option FieldType} (E : Ev p s m args meth c RJx4a65c cc nL ret d A) {o : Option Nat} {b : Nat} {k1 n1 : Nat} {x1 : Option Nat} {x2 : Option Nat} {x3 : Int32}  {rest : List Value} {σ1 : Sg} (hM : Mt l d yJx4a65c_add_72be8 cJx4a65c_add_72be8 4 none 5 147 σ [.ref b, va_rf x1, va_rf x2, .int x3] none σ1 k1 n1) (hd : decode cc pc = .ok (.invokevirtual 131, 3)) (hR : 5 + 1 ≤ R.frames ∧ 8 + (4 + 11) + 147 ≤ R.locals) (hf : k + k1 ≤ R.cells ∧ n + n1 ≤ R.slots) (hcat : (rest.map fun v => v.category).sum ≤ 8) (ho : o = some b) (hg : gc σ b = 1) (kk : Gk p l e R s m args below meth c d A Q nL σ1 (k + k1) (n + n1) (pc + 3) lv rest) : Gk p l e R s m args below meth c d A Q nL σ k n pc lv (.int x3 :: va_rf x2 :: va_rf x1 :: va_rf o :: rest) :=
  r_cV (As := [va_rf x1, va_rf x2, .int x3]) (rest := rest) (ci := 0) (nA := 3) E hM hd wm_1_229 wm_1_231 wm_p_1 wm_1_6 wm_1_232 rfl ⟨by decide, by decide, by decide +kernel⟩ rfl hR hf rfl (by decide) ho hg rfl hcat kk
set_option maxRecDepth 20000 in
theorem cl_X4_54 {p : Program} {l : Launch} {e : Env} {R : Room} {s : State} {m : MethodId} {args : Array Value} {below : List Frame} {meth : Method} {c : Code} {d : Dp} {A : Nat → Prop} {Q : State → Prop} {nL : Nat} {σ : Sg} {k n pc : Nat} {lv : List (Nat × Value)} {cc : ByteArray} {ret : Option FieldType} (E : Ev p s m args meth c RX4 cc nL ret d A) {o : Option Nat} {b : Nat} {k1 n1 : Nat} {x1 : Option Nat} {r : Int32} {rest : List Value} {σ1 : Sg} (hM : Mt l d yJx4a65c_add_9ea2d cJx4a65c_add_9ea2d 2 (some .boolean) 6 170 σ [.ref b, va_rf x1] (some (.int r)) σ1 k1 n1) (hd : decode cc pc = .ok (.invokevirtual 54, 3)) (hR : 6 + 1 ≤ R.frames ∧ 8 + (2 + 11) + 170 ≤ R.locals) (hf : k + k1 ≤ R.cells ∧ n + n1 ≤ R.slots) (hcat : (rest.map fun v => v.category).sum ≤ 8) (ho : o = some b) (hg : gc σ b = 1) (kk : Gk p l e R s m args below meth c d A Q nL σ1 (k + k1) (n + n1) (pc + 3) lv (.int r :: rest)) : Gk p l e R s m args below meth c d A Q nL σ k n pc lv (va_rf x1 :: va_rf o :: rest) :=
  r_cV (As := [va_rf x1]) (rest := rest) (ci := 0) (nA := 1) E hM hd wm_1_225 wm_1_226 wm_1_227 wm_1_6 wm_1_228 rfl ⟨by decide, by decide, by decide +kernel⟩ rfl hR hf rfl (by decide) ho hg rfl hcat kk
set_option maxRecDepth 20000 in
theorem gf_X4_58 {p : Program} {l : Launch} {e : Env} {R : Room} {s : State} {m : MethodId} {args : Array Value} {below : List Frame} {meth : Method} {c : Code} {d : Dp} {A : Nat → Prop} {Q : State → Prop} {nL : Nat} {σ : Sg} {k n pc : Nat} {lv : List (Nat × Value)} {st : List Value} {cc : ByteArray} {ret : Option FieldType} (E : Ev p s m args meth c RX4 cc nL ret d A) {o : Option Nat} {a : Nat} {x : Int32} (hd : decode cc pc = .ok (.getfield 58, 3)) (ho : o = some a) (hg : gc σ a = 5) (hx : gi σ 400 a = x) (kk : Gk p l e R s m args below meth c d A Q nL σ k n (pc + 3) lv (.int x :: st)) : Gk p l e R s m args below meth c d A Q nL σ k n pc lv (va_rf o :: st) := by
  subst hx
  exact r_get (ci := 4) (j := 0) (T := TX3) (rf := "FrameTalk$Node") E hd wm_1_199 (fun _ h9 => h9) rfl (by decide) inw_4 (by decide) ho hg rfl kk
set_option maxRecDepth 20000 in
theorem nf_4 {σ : Sg} : ∀ j, j < 6 → defaultValue (tyX3 j) = vp_V (fl 4 (nw σ 5) (hs σ)) j := by
  intro j hj
  match j, hj with
  | 0, _ => simp [tyX3, defaultValue, vp_V, fl, gi, gj, gp, nw, uc, va_rf]
  | 1, _ => simp [tyX3, defaultValue, vp_V, fl, gi, gj, gp, nw, uc, va_rf]
  | 2, _ => simp [tyX3, defaultValue, vp_V, fl, gi, gj, gp, nw, uc, va_rf]
  | 3, _ => simp [tyX3, defaultValue, vp_V, fl, gi, gj, gp, nw, uc, va_rf]
  | 4, _ => simp [tyX3, defaultValue, vp_V, fl, gi, gj, gp, nw, uc, va_rf]
  | 5, _ => simp [tyX3, defaultValue, vp_V, fl, gi, gj, gp, nw, uc, va_rf]
  | j + 6, hj => exact absurd hj (by omega)
set_option maxRecDepth 20000 in
theorem nw_X4_26 {p : Program} {l : Launch} {e : Env} {R : Room} {s : State} {m : MethodId} {args : Array Value} {below : List Frame} {meth : Method} {c : Code} {d : Dp} {A : Nat → Prop} {Q : State → Prop} {nL : Nat} {σ : Sg} {k n pc : Nat} {lv : List (Nat × Value)} {st : List Value} {cc : ByteArray} {ret : Option FieldType} (E : Ev p s m args meth c RX4 cc nL ret d A) (hd : decode cc pc = .ok (.new 26, 3)) (hR : k + 1 ≤ R.cells ∧ n + 6 ≤ R.slots) (kk : Gk p l e R s m args below meth c d A Q nL (nw σ 5) (k + 1) (n + 6) (pc + 3) lv (va_rf (some (hs σ)) :: st)) : Gk p l e R s m args below meth c d A Q nL σ k n pc lv st :=
  r_new (ci := 4) (C := RX3) (T := TX3) (N := 6) E hd wm_1_192 wm_1_193 wm_1_10 rfl (by decide) inw_4 tyX3 tyX3_ok (fun j hj => nf_4 j hj) hR kk
set_option maxRecDepth 20000 in
theorem cl_X4_28 {p : Program} {l : Launch} {e : Env} {R : Room} {s : State} {m : MethodId} {args : Array Value} {below : List Frame} {meth : Method} {c : Code} {d : Dp} {A : Nat → Prop} {Q : State → Prop} {nL : Nat} {σ : Sg} {k n pc : Nat} {lv : List (Nat × Value)} {cc : ByteArray} {ret : Option FieldType} (E : Ev p s m args meth c RX4 cc nL ret d A) {o : Option Nat} {b : Nat} {x1 : Int32} {x2 : Int32} {x3 : Int64}  {rest : List Value} {σ1 : Sg} (hM : Mt l d yX3_init cX3_init 5 none 1 20 σ [.ref b, .int x1, .int x2, .long x3] none σ1 0 0) (hd : decode cc pc = .ok (.invokespecial 28, 3)) (hR : 1 + 1 ≤ R.frames ∧ 8 + (5 + 11) + 20 ≤ R.locals) (hf : k + 0 ≤ R.cells ∧ n + 0 ≤ R.slots) (hcat : (rest.map fun v => v.category).sum ≤ 8) (ho : o = some b) (kk : Gk p l e R s m args below meth c d A Q nL σ1 k n (pc + 3) lv rest) : Gk p l e R s m args below meth c d A Q nL σ k n pc lv (.long x3 :: .int x2 :: .int x1 :: va_rf o :: rest) :=
  r_cI (As := [.int x1, .int x2, .long x3]) (rest := rest) (nA := 3) E hM hd wm_1_194 wm_1_195 wm_1_10 wm_1_196 rfl ⟨by decide, by decide, by decide +kernel⟩ rfl hR hf ho rfl hcat kk
set_option maxRecDepth 20000 in
theorem cl_X4_31 {p : Program} {l : Launch} {e : Env} {R : Room} {s : State} {m : MethodId} {args : Array Value} {below : List Frame} {meth : Method} {c : Code} {d : Dp} {A : Nat → Prop} {Q : State → Prop} {nL : Nat} {σ : Sg} {k n pc : Nat} {lv : List (Nat × Value)} {cc : ByteArray} {ret : Option FieldType} (E : Ev p s m args meth c RX4 cc nL ret d A) {o : Option Nat} {b : Nat} {k1 n1 : Nat} {x1 : Option Nat} {r : Int32} {rest : List Value} {σ1 : Sg} (hM : Mt l d yX4_append cX4_append 2 (some .int) 7 191 σ [.ref b, va_rf x1] (some (.int r)) σ1 k1 n1) (hd : decode cc pc = .ok (.invokevirtual 31, 3)) (hR : 7 + 1 ≤ R.frames ∧ 8 + (2 + 11) + 191 ≤ R.locals) (hf : k + k1 ≤ R.cells ∧ n + n1 ≤ R.slots) (hcat : (rest.map fun v => v.category).sum ≤ 8) (ho : o = some b) (hg : gc σ b = 6) (kk : Gk p l e R s m args below meth c d A Q nL σ1 (k + k1) (n + n1) (pc + 3) lv (.int r :: rest)) : Gk p l e R s m args below meth c d A Q nL σ k n pc lv (va_rf x1 :: va_rf o :: rest) :=
  r_cV (As := [va_rf x1]) (rest := rest) (ci := 5) (nA := 1) E hM hd wm_1_221 wm_1_223 wm_p_0 wm_1_3 wm_1_224 rfl ⟨by decide, by decide, by decide +kernel⟩ rfl hR hf rfl (by decide) ho hg rfl hcat kk
set_option maxRecDepth 20000 in
theorem cl_X4_39 {p : Program} {l : Launch} {e : Env} {R : Room} {s : State} {m : MethodId} {args : Array Value} {below : List Frame} {meth : Method} {c : Code} {d : Dp} {A : Nat → Prop} {Q : State → Prop} {nL : Nat} {σ : Sg} {k n pc : Nat} {lv : List (Nat × Value)} {cc : ByteArray} {ret : Option FieldType} (E : Ev p s m args meth c RX4 cc nL ret d A) {o : Option Nat} {b : Nat} {x1 : Int32} {r : Int32} {rest : List Value} {σ1 : Sg} (hM : Mt l d yX3_works cX3_works 2 (some .boolean) 0 0 σ [.ref b, .int x1] (some (.int r)) σ1 0 0) (hd : decode cc pc = .ok (.invokevirtual 39, 3)) (hR : 0 + 1 ≤ R.frames ∧ 8 + (2 + 11) + 0 ≤ R.locals) (hf : k + 0 ≤ R.cells ∧ n + 0 ≤ R.slots) (hcat : (rest.map fun v => v.category).sum ≤ 8) (ho : o = some b) (hg : gc σ b = 5) (kk : Gk p l e R s m args below meth c d A Q nL σ1 k n (pc + 3) lv (.int r :: rest)) : Gk p l e R s m args below meth c d A Q nL σ k n pc lv (.int x1 :: va_rf o :: rest) :=
  r_cV (As := [.int x1]) (rest := rest) (ci := 4) (nA := 1) E hM hd wm_2_53 wm_2_54 wm_2_55 wm_1_10 wm_2_56 rfl ⟨by decide, by decide, by decide +kernel⟩ rfl hR hf rfl (by decide) ho hg rfl hcat kk
set_option maxRecDepth 20000 in
theorem cl_X4_47 {p : Program} {l : Launch} {e : Env} {R : Room} {s : State} {m : MethodId} {args : Array Value} {below : List Frame} {meth : Method} {c : Code} {d : Dp} {A : Nat → Prop} {Q : State → Prop} {nL : Nat} {σ : Sg} {k n pc : Nat} {lv : List (Nat × Value)} {cc : ByteArray} {ret : Option FieldType} (E : Ev p s m args meth c RX4 cc nL ret d A) {o : Option Nat} {b : Nat} {x1 : Int32} {x2 : Int32}  {rest : List Value} {σ1 : Sg} (hM : Mt l d yX3_set cX3_set 3 none 0 0 σ [.ref b, .int x1, .int x2] none σ1 0 0) (hd : decode cc pc = .ok (.invokevirtual 47, 3)) (hR : 0 + 1 ≤ R.frames ∧ 8 + (3 + 11) + 0 ≤ R.locals) (hf : k + 0 ≤ R.cells ∧ n + 0 ≤ R.slots) (hcat : (rest.map fun v => v.category).sum ≤ 8) (ho : o = some b) (hg : gc σ b = 5) (kk : Gk p l e R s m args below meth c d A Q nL σ1 k n (pc + 3) lv rest) : Gk p l e R s m args below meth c d A Q nL σ k n pc lv (.int x2 :: .int x1 :: va_rf o :: rest) :=
  r_cV (As := [.int x1, .int x2]) (rest := rest) (ci := 4) (nA := 2) E hM hd wm_2_75 wm_2_76 wm_2_77 wm_1_10 wm_2_78 rfl ⟨by decide, by decide, by decide +kernel⟩ rfl hR hf rfl (by decide) ho hg rfl hcat kk
set_option maxRecDepth 20000 in
theorem cl_X4_43 {p : Program} {l : Launch} {e : Env} {R : Room} {s : State} {m : MethodId} {args : Array Value} {below : List Frame} {meth : Method} {c : Code} {d : Dp} {A : Nat → Prop} {Q : State → Prop} {nL : Nat} {σ : Sg} {k n pc : Nat} {lv : List (Nat × Value)} {cc : ByteArray} {ret : Option FieldType} (E : Ev p s m args meth c RX4 cc nL ret d A) {o : Option Nat} {b : Nat} {x1 : Int32} {r : Option Nat} {rest : List Value} {σ1 : Sg} (hM : Mt l d yX4_at cX4_at 2 (some (.object "FrameTalk$Node")) 3 64 σ [.ref b, .int x1] (some (va_rf r)) σ1 0 0) (hd : decode cc pc = .ok (.invokevirtual 43, 3)) (hR : 3 + 1 ≤ R.frames ∧ 8 + (2 + 11) + 64 ≤ R.locals) (hf : k + 0 ≤ R.cells ∧ n + 0 ≤ R.slots) (hcat : (rest.map fun v => v.category).sum ≤ 8) (ho : o = some b) (hg : gc σ b = 6) (kk : Gk p l e R s m args below meth c d A Q nL σ1 k n (pc + 3) lv (va_rf r :: rest)) : Gk p l e R s m args below meth c d A Q nL σ k n pc lv (.int x1 :: va_rf o :: rest) :=
  r_cV (As := [.int x1]) (rest := rest) (ci := 5) (nA := 1) E hM hd wm_2_57 wm_2_58 wm_2_59 wm_1_3 wm_2_60 rfl ⟨by decide, by decide, by decide +kernel⟩ rfl hR hf rfl (by decide) ho hg rfl hcat kk
set_option maxRecDepth 20000 in
theorem cl_X4_35 {p : Program} {l : Launch} {e : Env} {R : Room} {s : State} {m : MethodId} {args : Array Value} {below : List Frame} {meth : Method} {c : Code} {d : Dp} {A : Nat → Prop} {Q : State → Prop} {nL : Nat} {σ : Sg} {k n pc : Nat} {lv : List (Nat × Value)} {cc : ByteArray} {ret : Option FieldType} (E : Ev p s m args meth c RX4 cc nL ret d A) {o : Option Nat} {b : Nat} {x1 : Option Nat} {x2 : Int32} {x3 : Int32}  {rest : List Value} {σ1 : Sg} (hM : Mt l d yX4_setPart cX4_setPart 5 none 4 85 σ [.ref b, va_rf x1, .int x2, .int x3] none σ1 0 0) (hd : decode cc pc = .ok (.invokevirtual 35, 3)) (hR : 4 + 1 ≤ R.frames ∧ 8 + (5 + 11) + 85 ≤ R.locals) (hf : k + 0 ≤ R.cells ∧ n + 0 ≤ R.slots) (hcat : (rest.map fun v => v.category).sum ≤ 8) (ho : o = some b) (hg : gc σ b = 6) (kk : Gk p l e R s m args below meth c d A Q nL σ1 k n (pc + 3) lv rest) : Gk p l e R s m args below meth c d A Q nL σ k n pc lv (.int x3 :: .int x2 :: va_rf x1 :: va_rf o :: rest) :=
  r_cV (As := [va_rf x1, .int x2, .int x3]) (rest := rest) (ci := 5) (nA := 3) E hM hd wm_2_49 wm_2_50 wm_2_51 wm_1_3 wm_2_52 rfl ⟨by decide, by decide, by decide +kernel⟩ rfl hR hf rfl (by decide) ho hg rfl hcat kk
set_option maxRecDepth 20000 in
theorem cl_X4_51 {p : Program} {l : Launch} {e : Env} {R : Room} {s : State} {m : MethodId} {args : Array Value} {below : List Frame} {meth : Method} {c : Code} {d : Dp} {A : Nat → Prop} {Q : State → Prop} {nL : Nat} {σ : Sg} {k n pc : Nat} {lv : List (Nat × Value)} {cc : ByteArray} {ret : Option FieldType} (E : Ev p s m args meth c RX4 cc nL ret d A) {o : Option Nat} {b : Nat}   {rest : List Value} {σ1 : Sg} (hM : Mt l d yJx4a65c_clear_da8c8 cJx4a65c_clear_da8c8 4 none 0 0 σ [.ref b] none σ1 0 0) (hd : decode cc pc = .ok (.invokevirtual 51, 3)) (hR : 0 + 1 ≤ R.frames ∧ 8 + (4 + 11) + 0 ≤ R.locals) (hf : k + 0 ≤ R.cells ∧ n + 0 ≤ R.slots) (hcat : (rest.map fun v => v.category).sum ≤ 8) (ho : o = some b) (hg : gc σ b = 1) (kk : Gk p l e R s m args below meth c d A Q nL σ1 k n (pc + 3) lv rest) : Gk p l e R s m args below meth c d A Q nL σ k n pc lv (va_rf o :: rest) :=
  r_cV (As := []) (rest := rest) (ci := 0) (nA := 0) E hM hd wm_3_120 wm_3_121 wm_3_122 wm_1_6 wm_3_123 rfl ⟨by decide, by decide, by decide +kernel⟩ rfl hR hf rfl (by decide) ho hg rfl hcat kk
set_option maxRecDepth 20000 in
theorem gf_X5_9 {p : Program} {l : Launch} {e : Env} {R : Room} {s : State} {m : MethodId} {args : Array Value} {below : List Frame} {meth : Method} {c : Code} {d : Dp} {A : Nat → Prop} {Q : State → Prop} {nL : Nat} {σ : Sg} {k n pc : Nat} {lv : List (Nat × Value)} {st : List Value} {cc : ByteArray} {ret : Option FieldType} (E : Ev p s m args meth c RX5 cc nL ret d A) {o : Option Nat} {a : Nat} {x : Int32} (hd : decode cc pc = .ok (.getfield 9, 3)) (ho : o = some a) (hg : gc σ a = 7) (hx : gi σ 600 a = x) (kk : Gk p l e R s m args below meth c d A Q nL σ k n (pc + 3) lv (.int x :: st)) : Gk p l e R s m args below meth c d A Q nL σ k n pc lv (va_rf o :: st) := by
  subst hx
  exact r_get (ci := 6) (j := 0) (T := TX5) (rf := "FrameTalk$Thing") E hd wm_2_148 (fun _ h9 => h9) rfl (by decide) inw_6 (by decide) ho hg rfl kk
set_option maxRecDepth 20000 in
theorem gf_X5_33 {p : Program} {l : Launch} {e : Env} {R : Room} {s : State} {m : MethodId} {args : Array Value} {below : List Frame} {meth : Method} {c : Code} {d : Dp} {A : Nat → Prop} {Q : State → Prop} {nL : Nat} {σ : Sg} {k n pc : Nat} {lv : List (Nat × Value)} {st : List Value} {cc : ByteArray} {ret : Option FieldType} (E : Ev p s m args meth c RX5 cc nL ret d A) {o : Option Nat} {a : Nat} {x : Option Nat} (hd : decode cc pc = .ok (.getfield 33, 3)) (ho : o = some a) (hg : gc σ a = 7) (hx : gp σ 603 a = x) (kk : Gk p l e R s m args below meth c d A Q nL σ k n (pc + 3) lv (va_rf x :: st)) : Gk p l e R s m args below meth c d A Q nL σ k n pc lv (va_rf o :: st) := by
  subst hx
  exact r_get (ci := 6) (j := 3) (T := TX5) (rf := "FrameTalk$Thing") E hd wm_2_155 (fun _ h9 => h9) rfl (by decide) inw_6 (by decide) ho hg rfl kk
set_option maxRecDepth 20000 in
theorem cl_X5_37 {p : Program} {l : Launch} {e : Env} {R : Room} {s : State} {m : MethodId} {args : Array Value} {below : List Frame} {meth : Method} {c : Code} {d : Dp} {A : Nat → Prop} {Q : State → Prop} {nL : Nat} {σ : Sg} {k n pc : Nat} {lv : List (Nat × Value)} {cc : ByteArray} {ret : Option FieldType} (E : Ev p s m args meth c RX5 cc nL ret d A) {x1 : Option Nat} {r : Int32} {rest : List Value} {σ1 : Sg} (hM : Mt l d yX5_numberOf cX5_numberOf 1 (some .int) 0 0 σ [va_rf x1] (some (.int r)) σ1 0 0) (hd : decode cc pc = .ok (.invokestatic 37, 3)) (hR : 0 + 1 ≤ R.frames ∧ 8 + (1 + 11) + 0 ≤ R.locals) (hf : k + 0 ≤ R.cells ∧ n + 0 ≤ R.slots) (hcat : (rest.map fun v => v.category).sum ≤ 8) (kk : Gk p l e R s m args below meth c d A Q nL σ1 k n (pc + 3) lv (.int r :: rest)) : Gk p l e R s m args below meth c d A Q nL σ k n pc lv (va_rf x1 :: rest) :=
  r_cS (As := [va_rf x1]) (rest := rest) (nA := 1) E hM hd wm_3_93 wm_3_94 wm_1_17 wm_3_95 ⟨by decide, by decide, by decide +kernel⟩ rfl hR hf rfl hcat kk
set_option maxRecDepth 20000 in
theorem cl_X5_29 {p : Program} {l : Launch} {e : Env} {R : Room} {s : State} {m : MethodId} {args : Array Value} {below : List Frame} {meth : Method} {c : Code} {d : Dp} {A : Nat → Prop} {Q : State → Prop} {nL : Nat} {σ : Sg} {k n pc : Nat} {lv : List (Nat × Value)} {cc : ByteArray} {ret : Option FieldType} (E : Ev p s m args meth c RX5 cc nL ret d A) {o : Option Nat} {b : Nat}  {r : Int32} {rest : List Value} {σ1 : Sg} (hM : Mt l d yX5_placesOrNone cX5_placesOrNone 1 (some .int) 0 0 σ [.ref b] (some (.int r)) σ1 0 0) (hd : decode cc pc = .ok (.invokevirtual 29, 3)) (hR : 0 + 1 ≤ R.frames ∧ 8 + (1 + 11) + 0 ≤ R.locals) (hf : k + 0 ≤ R.cells ∧ n + 0 ≤ R.slots) (hcat : (rest.map fun v => v.category).sum ≤ 8) (ho : o = some b) (hg : gc σ b = 7) (kk : Gk p l e R s m args below meth c d A Q nL σ1 k n (pc + 3) lv (.int r :: rest)) : Gk p l e R s m args below meth c d A Q nL σ k n pc lv (va_rf o :: rest) :=
  r_cV (As := []) (rest := rest) (ci := 6) (nA := 0) E hM hd wm_3_89 wm_3_91 wm_p_30 wm_1_17 wm_3_92 rfl ⟨by decide, by decide, by decide +kernel⟩ rfl hR hf rfl (by decide) ho hg rfl hcat kk
set_option maxRecDepth 20000 in
theorem gf_X5_44 {p : Program} {l : Launch} {e : Env} {R : Room} {s : State} {m : MethodId} {args : Array Value} {below : List Frame} {meth : Method} {c : Code} {d : Dp} {A : Nat → Prop} {Q : State → Prop} {nL : Nat} {σ : Sg} {k n pc : Nat} {lv : List (Nat × Value)} {st : List Value} {cc : ByteArray} {ret : Option FieldType} (E : Ev p s m args meth c RX5 cc nL ret d A) {o : Option Nat} {a : Nat} {x : Option Nat} (hd : decode cc pc = .ok (.getfield 44, 3)) (ho : o = some a) (hg : gc σ a = 7) (hx : gp σ 604 a = x) (kk : Gk p l e R s m args below meth c d A Q nL σ k n (pc + 3) lv (va_rf x :: st)) : Gk p l e R s m args below meth c d A Q nL σ k n pc lv (va_rf o :: st) := by
  subst hx
  exact r_get (ci := 6) (j := 4) (T := TX5) (rf := "FrameTalk$Thing") E hd wm_2_158 (fun _ h9 => h9) rfl (by decide) inw_6 (by decide) ho hg rfl kk
set_option maxRecDepth 20000 in
theorem cl_X5_41 {p : Program} {l : Launch} {e : Env} {R : Room} {s : State} {m : MethodId} {args : Array Value} {below : List Frame} {meth : Method} {c : Code} {d : Dp} {A : Nat → Prop} {Q : State → Prop} {nL : Nat} {σ : Sg} {k n pc : Nat} {lv : List (Nat × Value)} {cc : ByteArray} {ret : Option FieldType} (E : Ev p s m args meth c RX5 cc nL ret d A) {o : Option Nat} {b : Nat}  {r : Int32} {rest : List Value} {σ1 : Sg} (hM : Mt l d yX5_useOrNone cX5_useOrNone 1 (some .int) 0 0 σ [.ref b] (some (.int r)) σ1 0 0) (hd : decode cc pc = .ok (.invokevirtual 41, 3)) (hR : 0 + 1 ≤ R.frames ∧ 8 + (1 + 11) + 0 ≤ R.locals) (hf : k + 0 ≤ R.cells ∧ n + 0 ≤ R.slots) (hcat : (rest.map fun v => v.category).sum ≤ 8) (ho : o = some b) (hg : gc σ b = 7) (kk : Gk p l e R s m args below meth c d A Q nL σ1 k n (pc + 3) lv (.int r :: rest)) : Gk p l e R s m args below meth c d A Q nL σ k n pc lv (va_rf o :: rest) :=
  r_cV (As := []) (rest := rest) (ci := 6) (nA := 0) E hM hd wm_3_96 wm_3_98 wm_p_31 wm_1_17 wm_3_99 rfl ⟨by decide, by decide, by decide +kernel⟩ rfl hR hf rfl (by decide) ho hg rfl hcat kk
set_option maxRecDepth 20000 in
theorem nf_2 {σ : Sg} : ∀ j, j < 13 → defaultValue (tyX1 j) = vp_V (fl 2 (nw σ 3) (hs σ)) j := by
  intro j hj
  match j, hj with
  | 0, _ => simp [tyX1, defaultValue, vp_V, fl, gi, gj, gp, nw, uc, va_rf]
  | 1, _ => simp [tyX1, defaultValue, vp_V, fl, gi, gj, gp, nw, uc, va_rf]
  | 2, _ => simp [tyX1, defaultValue, vp_V, fl, gi, gj, gp, nw, uc, va_rf]
  | 3, _ => simp [tyX1, defaultValue, vp_V, fl, gi, gj, gp, nw, uc, va_rf]
  | 4, _ => simp [tyX1, defaultValue, vp_V, fl, gi, gj, gp, nw, uc, va_rf]
  | 5, _ => simp [tyX1, defaultValue, vp_V, fl, gi, gj, gp, nw, uc, va_rf]
  | 6, _ => simp [tyX1, defaultValue, vp_V, fl, gi, gj, gp, nw, uc, va_rf]
  | 7, _ => simp [tyX1, defaultValue, vp_V, fl, gi, gj, gp, nw, uc, va_rf]
  | 8, _ => simp [tyX1, defaultValue, vp_V, fl, gi, gj, gp, nw, uc, va_rf]
  | 9, _ => simp [tyX1, defaultValue, vp_V, fl, gi, gj, gp, nw, uc, va_rf]
  | 10, _ => simp [tyX1, defaultValue, vp_V, fl, gi, gj, gp, nw, uc, va_rf]
  | 11, _ => simp [tyX1, defaultValue, vp_V, fl, gi, gj, gp, nw, uc, va_rf]
  | 12, _ => simp [tyX1, defaultValue, vp_V, fl, gi, gj, gp, nw, uc, va_rf]
  | j + 13, hj => exact absurd hj (by omega)
set_option maxRecDepth 20000 in
theorem nw_X6_7 {p : Program} {l : Launch} {e : Env} {R : Room} {s : State} {m : MethodId} {args : Array Value} {below : List Frame} {meth : Method} {c : Code} {d : Dp} {A : Nat → Prop} {Q : State → Prop} {nL : Nat} {σ : Sg} {k n pc : Nat} {lv : List (Nat × Value)} {st : List Value} {cc : ByteArray} {ret : Option FieldType} (E : Ev p s m args meth c RX6 cc nL ret d A) (hd : decode cc pc = .ok (.new 7, 3)) (hR : k + 1 ≤ R.cells ∧ n + 13 ≤ R.slots) (kk : Gk p l e R s m args below meth c d A Q nL (nw σ 3) (k + 1) (n + 13) (pc + 3) lv (va_rf (some (hs σ)) :: st)) : Gk p l e R s m args below meth c d A Q nL σ k n pc lv st :=
  r_new (ci := 2) (C := RX1) (T := TX1) (N := 13) E hd wm_1_26 wm_1_27 wm_1_2 rfl (by decide) inw_2 tyX1 tyX1_ok (fun j hj => nf_2 j hj) hR kk
set_option maxRecDepth 20000 in
theorem cl_X6_9 {p : Program} {l : Launch} {e : Env} {R : Room} {s : State} {m : MethodId} {args : Array Value} {below : List Frame} {meth : Method} {c : Code} {d : Dp} {A : Nat → Prop} {Q : State → Prop} {nL : Nat} {σ : Sg} {k n pc : Nat} {lv : List (Nat × Value)} {cc : ByteArray} {ret : Option FieldType} (E : Ev p s m args meth c RX6 cc nL ret d A) {o : Option Nat} {b : Nat} {k1 n1 : Nat}   {rest : List Value} {σ1 : Sg} (hM : Mt l d yX1_init cX1_init 1 none 5 100 σ [.ref b] none σ1 k1 n1) (hd : decode cc pc = .ok (.invokespecial 9, 3)) (hR : 5 + 1 ≤ R.frames ∧ 8 + (1 + 11) + 100 ≤ R.locals) (hf : k + k1 ≤ R.cells ∧ n + n1 ≤ R.slots) (hcat : (rest.map fun v => v.category).sum ≤ 8) (ho : o = some b) (kk : Gk p l e R s m args below meth c d A Q nL σ1 (k + k1) (n + n1) (pc + 3) lv rest) : Gk p l e R s m args below meth c d A Q nL σ k n pc lv (va_rf o :: rest) :=
  r_cI (As := []) (rest := rest) (nA := 0) E hM hd wm_1_28 wm_1_29 wm_1_2 wm_1_30 rfl ⟨by decide, by decide, by decide +kernel⟩ rfl hR hf ho rfl hcat kk
set_option maxRecDepth 20000 in
theorem inw_7 : ∀ w ∈ u_ws RX6 TX6 2, w ∈ wsL_law := by
  intro w hw
  obtain ⟨i, hi, rfl⟩ := List.mem_map.mp hw
  have hi := List.mem_range.mp hi
  match i, hi with
  | 0, _ => exact wm_1_175
  | 1, _ => exact wm_1_177
  | i + 2, hi => exact absurd hi (by omega)
set_option maxRecDepth 20000 in
theorem pf_X6_10 {p : Program} {l : Launch} {e : Env} {R : Room} {s : State} {m : MethodId} {args : Array Value} {below : List Frame} {meth : Method} {c : Code} {d : Dp} {A : Nat → Prop} {Q : State → Prop} {nL : Nat} {σ : Sg} {k n pc : Nat} {lv : List (Nat × Value)} {st : List Value} {cc : ByteArray} {ret : Option FieldType} (E : Ev p s m args meth c RX6 cc nL ret d A) {o : Option Nat} {a : Nat} {x : Option Nat} (hini : meth.name = "<init>") (hd : decode cc pc = .ok (.putfield 10, 3)) (ho : o = some a) (hg : gc σ a = 8) (kk : Gk p l e R s m args below meth c d A Q nL (sp σ 701 a x) k n (pc + 3) lv st) : Gk p l e R s m args below meth c d A Q nL σ k n pc lv (va_rf x :: va_rf o :: st) :=
  r_putF (ci := 7) (j := 1) (T := TX6) (rf := "FrameTalk") (σ' := sp σ 701 a x) (ty := tyX6 1) E hd wm_1_174 (fun _ h9 => h9) rfl (by decide) inw_7 (by decide) tyX6 tyX6_ok nmX6 rfl hini rfl (tyX6_ok 1 (by decide)) (by cases x <;> rfl) (by cases x <;> rfl) ho hg (by simp [fl]) rfl rfl (fun b hb c => fl_sp hb c) (fun _ _ => rfl) fs_701 kk
set_option maxRecDepth 20000 in
theorem gf_X6_10 {p : Program} {l : Launch} {e : Env} {R : Room} {s : State} {m : MethodId} {args : Array Value} {below : List Frame} {meth : Method} {c : Code} {d : Dp} {A : Nat → Prop} {Q : State → Prop} {nL : Nat} {σ : Sg} {k n pc : Nat} {lv : List (Nat × Value)} {st : List Value} {cc : ByteArray} {ret : Option FieldType} (E : Ev p s m args meth c RX6 cc nL ret d A) {o : Option Nat} {a : Nat} {x : Option Nat} (hd : decode cc pc = .ok (.getfield 10, 3)) (ho : o = some a) (hg : gc σ a = 8) (hx : gp σ 701 a = x) (kk : Gk p l e R s m args below meth c d A Q nL σ k n (pc + 3) lv (va_rf x :: st)) : Gk p l e R s m args below meth c d A Q nL σ k n pc lv (va_rf o :: st) := by
  subst hx
  exact r_get (ci := 7) (j := 1) (T := TX6) (rf := "FrameTalk") E hd wm_1_174 (fun _ h9 => h9) rfl (by decide) inw_7 (by decide) ho hg rfl kk
set_option maxRecDepth 20000 in
theorem gf_X6_16 {p : Program} {l : Launch} {e : Env} {R : Room} {s : State} {m : MethodId} {args : Array Value} {below : List Frame} {meth : Method} {c : Code} {d : Dp} {A : Nat → Prop} {Q : State → Prop} {nL : Nat} {σ : Sg} {k n pc : Nat} {lv : List (Nat × Value)} {st : List Value} {cc : ByteArray} {ret : Option FieldType} (E : Ev p s m args meth c RX6 cc nL ret d A) {o : Option Nat} {a : Nat} {x : Option Nat} (hd : decode cc pc = .ok (.getfield 16, 3)) (ho : o = some a) (hg : gc σ a = 3) (hx : gp σ 200 a = x) (kk : Gk p l e R s m args below meth c d A Q nL σ k n (pc + 3) lv (va_rf x :: st)) : Gk p l e R s m args below meth c d A Q nL σ k n pc lv (va_rf o :: st) := by
  subst hx
  exact r_get (ci := 2) (j := 0) (T := TX1) (rf := "FrameTalk$Machine") E hd wm_1_130 (fun _ h9 => h9) rfl (by decide) inw_2 (by decide) ho hg rfl kk
set_option maxRecDepth 20000 in
theorem pf_X6_20 {p : Program} {l : Launch} {e : Env} {R : Room} {s : State} {m : MethodId} {args : Array Value} {below : List Frame} {meth : Method} {c : Code} {d : Dp} {A : Nat → Prop} {Q : State → Prop} {nL : Nat} {σ : Sg} {k n pc : Nat} {lv : List (Nat × Value)} {st : List Value} {cc : ByteArray} {ret : Option FieldType} (E : Ev p s m args meth c RX6 cc nL ret d A) {o : Option Nat} {a : Nat} {x : Option Nat} (hini : meth.name = "<init>") (hd : decode cc pc = .ok (.putfield 20, 3)) (ho : o = some a) (hg : gc σ a = 8) (kk : Gk p l e R s m args below meth c d A Q nL (sp σ 700 a x) k n (pc + 3) lv st) : Gk p l e R s m args below meth c d A Q nL σ k n pc lv (va_rf x :: va_rf o :: st) :=
  r_putF (ci := 7) (j := 0) (T := TX6) (rf := "FrameTalk") (σ' := sp σ 700 a x) (ty := tyX6 0) E hd wm_1_173 (fun _ h9 => h9) rfl (by decide) inw_7 (by decide) tyX6 tyX6_ok nmX6 rfl hini rfl (tyX6_ok 0 (by decide)) (by cases x <;> rfl) (by cases x <;> rfl) ho hg (by simp [fl]) rfl rfl (fun b hb c => fl_sp hb c) (fun _ _ => rfl) fs_700 kk
set_option maxRecDepth 20000 in
theorem gf_X6_20 {p : Program} {l : Launch} {e : Env} {R : Room} {s : State} {m : MethodId} {args : Array Value} {below : List Frame} {meth : Method} {c : Code} {d : Dp} {A : Nat → Prop} {Q : State → Prop} {nL : Nat} {σ : Sg} {k n pc : Nat} {lv : List (Nat × Value)} {st : List Value} {cc : ByteArray} {ret : Option FieldType} (E : Ev p s m args meth c RX6 cc nL ret d A) {o : Option Nat} {a : Nat} {x : Option Nat} (hd : decode cc pc = .ok (.getfield 20, 3)) (ho : o = some a) (hg : gc σ a = 8) (hx : gp σ 700 a = x) (kk : Gk p l e R s m args below meth c d A Q nL σ k n (pc + 3) lv (va_rf x :: st)) : Gk p l e R s m args below meth c d A Q nL σ k n pc lv (va_rf o :: st) := by
  subst hx
  exact r_get (ci := 7) (j := 0) (T := TX6) (rf := "FrameTalk") E hd wm_1_173 (fun _ h9 => h9) rfl (by decide) inw_7 (by decide) ho hg rfl kk
set_option maxRecDepth 20000 in
theorem cl_X6_21 {p : Program} {l : Launch} {e : Env} {R : Room} {s : State} {m : MethodId} {args : Array Value} {below : List Frame} {meth : Method} {c : Code} {d : Dp} {A : Nat → Prop} {Q : State → Prop} {nL : Nat} {σ : Sg} {k n pc : Nat} {lv : List (Nat × Value)} {cc : ByteArray} {ret : Option FieldType} (E : Ev p s m args meth c RX6 cc nL ret d A) {o : Option Nat} {b : Nat} {k1 n1 : Nat} {x1 : Int64} {r : Int32} {rest : List Value} {σ1 : Sg} (hM : Mt l d yX4_addLiteral cX4_addLiteral 3 (some .int) 8 212 σ [.ref b, .long x1] (some (.int r)) σ1 k1 n1) (hd : decode cc pc = .ok (.invokevirtual 21, 3)) (hR : 8 + 1 ≤ R.frames ∧ 8 + (3 + 11) + 212 ≤ R.locals) (hf : k + k1 ≤ R.cells ∧ n + n1 ≤ R.slots) (hcat : (rest.map fun v => v.category).sum ≤ 8) (ho : o = some b) (hg : gc σ b = 6) (kk : Gk p l e R s m args below meth c d A Q nL σ1 (k + k1) (n + n1) (pc + 3) lv (.int r :: rest)) : Gk p l e R s m args below meth c d A Q nL σ k n pc lv (.long x1 :: va_rf o :: rest) :=
  r_cV (As := [.long x1]) (rest := rest) (ci := 5) (nA := 1) E hM hd wm_1_184 wm_1_185 wm_1_186 wm_1_3 wm_1_187 rfl ⟨by decide, by decide, by decide +kernel⟩ rfl hR hf rfl (by decide) ho hg rfl hcat kk
set_option maxRecDepth 20000 in
theorem cl_X6_29 {p : Program} {l : Launch} {e : Env} {R : Room} {s : State} {m : MethodId} {args : Array Value} {below : List Frame} {meth : Method} {c : Code} {d : Dp} {A : Nat → Prop} {Q : State → Prop} {nL : Nat} {σ : Sg} {k n pc : Nat} {lv : List (Nat × Value)} {cc : ByteArray} {ret : Option FieldType} (E : Ev p s m args meth c RX6 cc nL ret d A) {o : Option Nat} {b : Nat} {k1 n1 : Nat} {x1 : Int32} {x2 : Int32} {x3 : Int32} {x4 : Int32} {r : Int32} {rest : List Value} {σ1 : Sg} (hM : Mt l d yX4_add cX4_add 6 (some .int) 8 212 σ [.ref b, .int x1, .int x2, .int x3, .int x4] (some (.int r)) σ1 k1 n1) (hd : decode cc pc = .ok (.invokevirtual 29, 3)) (hR : 8 + 1 ≤ R.frames ∧ 8 + (6 + 11) + 212 ≤ R.locals) (hf : k + k1 ≤ R.cells ∧ n + n1 ≤ R.slots) (hcat : (rest.map fun v => v.category).sum ≤ 8) (ho : o = some b) (hg : gc σ b = 6) (kk : Gk p l e R s m args below meth c d A Q nL σ1 (k + k1) (n + n1) (pc + 3) lv (.int r :: rest)) : Gk p l e R s m args below meth c d A Q nL σ k n pc lv (.int x4 :: .int x3 :: .int x2 :: .int x1 :: va_rf o :: rest) :=
  r_cV (As := [.int x1, .int x2, .int x3, .int x4]) (rest := rest) (ci := 5) (nA := 4) E hM hd wm_2_45 wm_2_46 wm_2_47 wm_1_3 wm_2_48 rfl ⟨by decide, by decide, by decide +kernel⟩ rfl hR hf rfl (by decide) ho hg rfl hcat kk
set_option maxRecDepth 20000 in
theorem cl_X6_33 {p : Program} {l : Launch} {e : Env} {R : Room} {s : State} {m : MethodId} {args : Array Value} {below : List Frame} {meth : Method} {c : Code} {d : Dp} {A : Nat → Prop} {Q : State → Prop} {nL : Nat} {σ : Sg} {k n pc : Nat} {lv : List (Nat × Value)} {cc : ByteArray} {ret : Option FieldType} (E : Ev p s m args meth c RX6 cc nL ret d A) {o : Option Nat} {b : Nat} {x1 : Int32} {r : Option Nat} {rest : List Value} {σ1 : Sg} (hM : Mt l d yX4_at cX4_at 2 (some (.object "FrameTalk$Node")) 3 64 σ [.ref b, .int x1] (some (va_rf r)) σ1 0 0) (hd : decode cc pc = .ok (.invokevirtual 33, 3)) (hR : 3 + 1 ≤ R.frames ∧ 8 + (2 + 11) + 64 ≤ R.locals) (hf : k + 0 ≤ R.cells ∧ n + 0 ≤ R.slots) (hcat : (rest.map fun v => v.category).sum ≤ 8) (ho : o = some b) (hg : gc σ b = 6) (kk : Gk p l e R s m args below meth c d A Q nL σ1 k n (pc + 3) lv (va_rf r :: rest)) : Gk p l e R s m args below meth c d A Q nL σ k n pc lv (.int x1 :: va_rf o :: rest) :=
  r_cV (As := [.int x1]) (rest := rest) (ci := 5) (nA := 1) E hM hd wm_2_83 wm_2_58 wm_2_59 wm_1_3 wm_2_60 rfl ⟨by decide, by decide, by decide +kernel⟩ rfl hR hf rfl (by decide) ho hg rfl hcat kk
set_option maxRecDepth 20000 in
theorem cl_X6_37 {p : Program} {l : Launch} {e : Env} {R : Room} {s : State} {m : MethodId} {args : Array Value} {below : List Frame} {meth : Method} {c : Code} {d : Dp} {A : Nat → Prop} {Q : State → Prop} {nL : Nat} {σ : Sg} {k n pc : Nat} {lv : List (Nat × Value)} {cc : ByteArray} {ret : Option FieldType} (E : Ev p s m args meth c RX6 cc nL ret d A) {o : Option Nat} {b : Nat} {x1 : Option Nat} {x2 : Int32} {x3 : Int32}  {rest : List Value} {σ1 : Sg} (hM : Mt l d yX4_setPart cX4_setPart 5 none 4 85 σ [.ref b, va_rf x1, .int x2, .int x3] none σ1 0 0) (hd : decode cc pc = .ok (.invokevirtual 37, 3)) (hR : 4 + 1 ≤ R.frames ∧ 8 + (5 + 11) + 85 ≤ R.locals) (hf : k + 0 ≤ R.cells ∧ n + 0 ≤ R.slots) (hcat : (rest.map fun v => v.category).sum ≤ 8) (ho : o = some b) (hg : gc σ b = 6) (kk : Gk p l e R s m args below meth c d A Q nL σ1 k n (pc + 3) lv rest) : Gk p l e R s m args below meth c d A Q nL σ k n pc lv (.int x3 :: .int x2 :: va_rf x1 :: va_rf o :: rest) :=
  r_cV (As := [va_rf x1, .int x2, .int x3]) (rest := rest) (ci := 5) (nA := 3) E hM hd wm_2_84 wm_2_50 wm_2_51 wm_1_3 wm_2_52 rfl ⟨by decide, by decide, by decide +kernel⟩ rfl hR hf rfl (by decide) ho hg rfl hcat kk
set_option maxRecDepth 20000 in
theorem cl_X6_41 {p : Program} {l : Launch} {e : Env} {R : Room} {s : State} {m : MethodId} {args : Array Value} {below : List Frame} {meth : Method} {c : Code} {d : Dp} {A : Nat → Prop} {Q : State → Prop} {nL : Nat} {σ : Sg} {k n pc : Nat} {lv : List (Nat × Value)} {cc : ByteArray} {ret : Option FieldType} (E : Ev p s m args meth c RX6 cc nL ret d A) {o : Option Nat} {b : Nat} {k1 n1 : Nat} {x1 : Option Nat} {x2 : Int32}  {rest : List Value} {σ1 : Sg} (hM : Mt l d yX1_begin cX1_begin 3 none 4 83 σ [.ref b, va_rf x1, .int x2] none σ1 k1 n1) (hd : decode cc pc = .ok (.invokevirtual 41, 3)) (hR : 4 + 1 ≤ R.frames ∧ 8 + (3 + 11) + 83 ≤ R.locals) (hf : k + k1 ≤ R.cells ∧ n + n1 ≤ R.slots) (hcat : (rest.map fun v => v.category).sum ≤ 8) (ho : o = some b) (hg : gc σ b = 3) (kk : Gk p l e R s m args below meth c d A Q nL σ1 (k + k1) (n + n1) (pc + 3) lv rest) : Gk p l e R s m args below meth c d A Q nL σ k n pc lv (.int x2 :: va_rf x1 :: va_rf o :: rest) :=
  r_cV (As := [va_rf x1, .int x2]) (rest := rest) (ci := 2) (nA := 2) E hM hd wm_2_89 wm_2_90 wm_2_91 wm_1_2 wm_2_92 rfl ⟨by decide, by decide, by decide +kernel⟩ rfl hR hf rfl (by decide) ho hg rfl hcat kk
set_option maxRecDepth 20000 in
theorem cl_X6_53 {p : Program} {l : Launch} {e : Env} {R : Room} {s : State} {m : MethodId} {args : Array Value} {below : List Frame} {meth : Method} {c : Code} {d : Dp} {A : Nat → Prop} {Q : State → Prop} {nL : Nat} {σ : Sg} {k n pc : Nat} {lv : List (Nat × Value)} {cc : ByteArray} {ret : Option FieldType} (E : Ev p s m args meth c RX6 cc nL ret d A) {o : Option Nat} {b : Nat}  {r : Int32} {rest : List Value} {σ1 : Sg} (hM : Mt l d yX1_end cX1_end 1 (some .int) 0 0 σ [.ref b] (some (.int r)) σ1 0 0) (hd : decode cc pc = .ok (.invokevirtual 53, 3)) (hR : 0 + 1 ≤ R.frames ∧ 8 + (1 + 11) + 0 ≤ R.locals) (hf : k + 0 ≤ R.cells ∧ n + 0 ≤ R.slots) (hcat : (rest.map fun v => v.category).sum ≤ 8) (ho : o = some b) (hg : gc σ b = 3) (kk : Gk p l e R s m args below meth c d A Q nL σ1 k n (pc + 3) lv (.int r :: rest)) : Gk p l e R s m args below meth c d A Q nL σ k n pc lv (va_rf o :: rest) :=
  r_cV (As := []) (rest := rest) (ci := 2) (nA := 0) E hM hd wm_3_61 wm_3_62 wm_3_63 wm_1_2 wm_3_64 rfl ⟨by decide, by decide, by decide +kernel⟩ rfl hR hf rfl (by decide) ho hg rfl hcat kk
set_option maxRecDepth 20000 in
theorem cl_X6_46 {p : Program} {l : Launch} {e : Env} {R : Room} {s : State} {m : MethodId} {args : Array Value} {below : List Frame} {meth : Method} {c : Code} {d : Dp} {A : Nat → Prop} {Q : State → Prop} {nL : Nat} {σ : Sg} {k n pc : Nat} {lv : List (Nat × Value)} {cc : ByteArray} {ret : Option FieldType} (E : Ev p s m args meth c RX6 cc nL ret d A) {o : Option Nat} {b : Nat}  {r : Int32} {rest : List Value} {σ1 : Sg} (hM : Mt l d yX1_isAtWork cX1_isAtWork 1 (some .boolean) 0 0 σ [.ref b] (some (.int r)) σ1 0 0) (hd : decode cc pc = .ok (.invokevirtual 46, 3)) (hR : 0 + 1 ≤ R.frames ∧ 8 + (1 + 11) + 0 ≤ R.locals) (hf : k + 0 ≤ R.cells ∧ n + 0 ≤ R.slots) (hcat : (rest.map fun v => v.category).sum ≤ 8) (ho : o = some b) (hg : gc σ b = 3) (kk : Gk p l e R s m args below meth c d A Q nL σ1 k n (pc + 3) lv (.int r :: rest)) : Gk p l e R s m args below meth c d A Q nL σ k n pc lv (va_rf o :: rest) :=
  r_cV (As := []) (rest := rest) (ci := 2) (nA := 0) E hM hd wm_2_118 wm_2_119 wm_2_120 wm_1_2 wm_2_121 rfl ⟨by decide, by decide, by decide +kernel⟩ rfl hR hf rfl (by decide) ho hg rfl hcat kk
set_option maxRecDepth 20000 in
theorem cl_X6_50 {p : Program} {l : Launch} {e : Env} {R : Room} {s : State} {m : MethodId} {args : Array Value} {below : List Frame} {meth : Method} {c : Code} {d : Dp} {A : Nat → Prop} {Q : State → Prop} {nL : Nat} {σ : Sg} {k n pc : Nat} {lv : List (Nat × Value)} {cc : ByteArray} {ret : Option FieldType} (E : Ev p s m args meth c RX6 cc nL ret d A) {o : Option Nat} {b : Nat} {k1 n1 : Nat}   {rest : List Value} {σ1 : Sg} (hM : Mt l d yX1_takeTurn cX1_takeTurn 3 none 6 137 σ [.ref b] none σ1 k1 n1) (hd : decode cc pc = .ok (.invokevirtual 50, 3)) (hR : 6 + 1 ≤ R.frames ∧ 8 + (3 + 11) + 137 ≤ R.locals) (hf : k + k1 ≤ R.cells ∧ n + n1 ≤ R.slots) (hcat : (rest.map fun v => v.category).sum ≤ 8) (ho : o = some b) (hg : gc σ b = 3) (kk : Gk p l e R s m args below meth c d A Q nL σ1 (k + k1) (n + n1) (pc + 3) lv rest) : Gk p l e R s m args below meth c d A Q nL σ k n pc lv (va_rf o :: rest) :=
  r_cV (As := []) (rest := rest) (ci := 2) (nA := 0) E hM hd wm_2_122 wm_2_123 wm_2_124 wm_1_2 wm_2_125 rfl ⟨by decide, by decide, by decide +kernel⟩ rfl hR hf rfl (by decide) ho hg rfl hcat kk
set_option maxRecDepth 20000 in
theorem cl_X6_57 {p : Program} {l : Launch} {e : Env} {R : Room} {s : State} {m : MethodId} {args : Array Value} {below : List Frame} {meth : Method} {c : Code} {d : Dp} {A : Nat → Prop} {Q : State → Prop} {nL : Nat} {σ : Sg} {k n pc : Nat} {lv : List (Nat × Value)} {cc : ByteArray} {ret : Option FieldType} (E : Ev p s m args meth c RX6 cc nL ret d A) {o : Option Nat} {b : Nat} {x1 : Int32} {r : Option Nat} {rest : List Value} {σ1 : Sg} (hM : Mt l d yX1_seenAt cX1_seenAt 2 (some (.object "FrameTalk$Thing")) 1 21 σ [.ref b, .int x1] (some (va_rf r)) σ1 0 0) (hd : decode cc pc = .ok (.invokevirtual 57, 3)) (hR : 1 + 1 ≤ R.frames ∧ 8 + (2 + 11) + 21 ≤ R.locals) (hf : k + 0 ≤ R.cells ∧ n + 0 ≤ R.slots) (hcat : (rest.map fun v => v.category).sum ≤ 8) (ho : o = some b) (hg : gc σ b = 3) (kk : Gk p l e R s m args below meth c d A Q nL σ1 k n (pc + 3) lv (va_rf r :: rest)) : Gk p l e R s m args below meth c d A Q nL σ k n pc lv (.int x1 :: va_rf o :: rest) :=
  r_cV (As := [.int x1]) (rest := rest) (ci := 2) (nA := 1) E hM hd wm_3_69 wm_3_70 wm_3_71 wm_1_2 wm_3_72 rfl ⟨by decide, by decide, by decide +kernel⟩ rfl hR hf rfl (by decide) ho hg rfl hcat kk
set_option maxRecDepth 20000 in
theorem cl_X6_61 {p : Program} {l : Launch} {e : Env} {R : Room} {s : State} {m : MethodId} {args : Array Value} {below : List Frame} {meth : Method} {c : Code} {d : Dp} {A : Nat → Prop} {Q : State → Prop} {nL : Nat} {σ : Sg} {k n pc : Nat} {lv : List (Nat × Value)} {cc : ByteArray} {ret : Option FieldType} (E : Ev p s m args meth c RX6 cc nL ret d A) {o : Option Nat} {b : Nat}  {r : Int32} {rest : List Value} {σ1 : Sg} (hM : Mt l d yX5_hasValue cX5_hasValue 1 (some .boolean) 0 0 σ [.ref b] (some (.int r)) σ1 0 0) (hd : decode cc pc = .ok (.invokevirtual 61, 3)) (hR : 0 + 1 ≤ R.frames ∧ 8 + (1 + 11) + 0 ≤ R.locals) (hf : k + 0 ≤ R.cells ∧ n + 0 ≤ R.slots) (hcat : (rest.map fun v => v.category).sum ≤ 8) (ho : o = some b) (hg : gc σ b = 7) (kk : Gk p l e R s m args below meth c d A Q nL σ1 k n (pc + 3) lv (.int r :: rest)) : Gk p l e R s m args below meth c d A Q nL σ k n pc lv (va_rf o :: rest) :=
  r_cV (As := []) (rest := rest) (ci := 6) (nA := 0) E hM hd wm_3_73 wm_3_74 wm_3_75 wm_1_17 wm_3_76 rfl ⟨by decide, by decide, by decide +kernel⟩ rfl hR hf rfl (by decide) ho hg rfl hcat kk
set_option maxRecDepth 20000 in
theorem gf_X6_66 {p : Program} {l : Launch} {e : Env} {R : Room} {s : State} {m : MethodId} {args : Array Value} {below : List Frame} {meth : Method} {c : Code} {d : Dp} {A : Nat → Prop} {Q : State → Prop} {nL : Nat} {σ : Sg} {k n pc : Nat} {lv : List (Nat × Value)} {st : List Value} {cc : ByteArray} {ret : Option FieldType} (E : Ev p s m args meth c RX6 cc nL ret d A) {o : Option Nat} {a : Nat} {x : Int64} (hd : decode cc pc = .ok (.getfield 66, 3)) (ho : o = some a) (hg : gc σ a = 7) (hx : gj σ 602 a = x) (kk : Gk p l e R s m args below meth c d A Q nL σ k n (pc + 3) lv (.long x :: st)) : Gk p l e R s m args below meth c d A Q nL σ k n pc lv (va_rf o :: st) := by
  subst hx
  exact r_get (ci := 6) (j := 2) (T := TX5) (rf := "FrameTalk$Thing") E hd wm_2_152 (fun _ h9 => h9) rfl (by decide) inw_6 (by decide) ho hg rfl kk
set_option maxRecDepth 20000 in
theorem cl_X6_70 {p : Program} {l : Launch} {e : Env} {R : Room} {s : State} {m : MethodId} {args : Array Value} {below : List Frame} {meth : Method} {c : Code} {d : Dp} {A : Nat → Prop} {Q : State → Prop} {nL : Nat} {σ : Sg} {k n pc : Nat} {lv : List (Nat × Value)} {cc : ByteArray} {ret : Option FieldType} (E : Ev p s m args meth c RX6 cc nL ret d A) {o : Option Nat} {b : Nat} {x1 : Int32} {r : Int32} {rest : List Value} {σ1 : Sg} (hM : Mt l d yX1_canSee cX1_canSee 2 (some .boolean) 1 21 σ [.ref b, .int x1] (some (.int r)) σ1 0 0) (hd : decode cc pc = .ok (.invokevirtual 70, 3)) (hR : 1 + 1 ≤ R.frames ∧ 8 + (2 + 11) + 21 ≤ R.locals) (hf : k + 0 ≤ R.cells ∧ n + 0 ≤ R.slots) (hcat : (rest.map fun v => v.category).sum ≤ 8) (ho : o = some b) (hg : gc σ b = 3) (kk : Gk p l e R s m args below meth c d A Q nL σ1 k n (pc + 3) lv (.int r :: rest)) : Gk p l e R s m args below meth c d A Q nL σ k n pc lv (.int x1 :: va_rf o :: rest) :=
  r_cV (As := [.int x1]) (rest := rest) (ci := 2) (nA := 1) E hM hd wm_3_81 wm_3_82 wm_3_83 wm_1_2 wm_3_84 rfl ⟨by decide, by decide, by decide +kernel⟩ rfl hR hf rfl (by decide) ho hg rfl hcat kk
set_option maxRecDepth 20000 in
theorem cl_X6_78 {p : Program} {l : Launch} {e : Env} {R : Room} {s : State} {m : MethodId} {args : Array Value} {below : List Frame} {meth : Method} {c : Code} {d : Dp} {A : Nat → Prop} {Q : State → Prop} {nL : Nat} {σ : Sg} {k n pc : Nat} {lv : List (Nat × Value)} {cc : ByteArray} {ret : Option FieldType} (E : Ev p s m args meth c RX6 cc nL ret d A) {o : Option Nat} {b : Nat} {x1 : Int32} {r : Int32} {rest : List Value} {σ1 : Sg} (hM : Mt l d yX5_tell cX5_tell 2 (some .int) 1 20 σ [.ref b, .int x1] (some (.int r)) σ1 0 0) (hd : decode cc pc = .ok (.invokevirtual 78, 3)) (hR : 1 + 1 ≤ R.frames ∧ 8 + (2 + 11) + 20 ≤ R.locals) (hf : k + 0 ≤ R.cells ∧ n + 0 ≤ R.slots) (hcat : (rest.map fun v => v.category).sum ≤ 8) (ho : o = some b) (hg : gc σ b = 7) (kk : Gk p l e R s m args below meth c d A Q nL σ1 k n (pc + 3) lv (.int r :: rest)) : Gk p l e R s m args below meth c d A Q nL σ k n pc lv (.int x1 :: va_rf o :: rest) :=
  r_cV (As := [.int x1]) (rest := rest) (ci := 6) (nA := 1) E hM hd wm_3_85 wm_3_86 wm_3_87 wm_1_17 wm_3_88 rfl ⟨by decide, by decide, by decide +kernel⟩ rfl hR hf rfl (by decide) ho hg rfl hcat kk
set_option maxRecDepth 20000 in
theorem gf_X6_74 {p : Program} {l : Launch} {e : Env} {R : Room} {s : State} {m : MethodId} {args : Array Value} {below : List Frame} {meth : Method} {c : Code} {d : Dp} {A : Nat → Prop} {Q : State → Prop} {nL : Nat} {σ : Sg} {k n pc : Nat} {lv : List (Nat × Value)} {st : List Value} {cc : ByteArray} {ret : Option FieldType} (E : Ev p s m args meth c RX6 cc nL ret d A) {o : Option Nat} {a : Nat} {x : Int32} (hd : decode cc pc = .ok (.getfield 74, 3)) (ho : o = some a) (hg : gc σ a = 7) (hx : gi σ 601 a = x) (kk : Gk p l e R s m args below meth c d A Q nL σ k n (pc + 3) lv (.int x :: st)) : Gk p l e R s m args below meth c d A Q nL σ k n pc lv (va_rf o :: st) := by
  subst hx
  exact r_get (ci := 6) (j := 1) (T := TX5) (rf := "FrameTalk$Thing") E hd wm_2_150 (fun _ h9 => h9) rfl (by decide) inw_6 (by decide) ho hg rfl kk
set_option maxRecDepth 20000 in
theorem gf_X6_82 {p : Program} {l : Launch} {e : Env} {R : Room} {s : State} {m : MethodId} {args : Array Value} {below : List Frame} {meth : Method} {c : Code} {d : Dp} {A : Nat → Prop} {Q : State → Prop} {nL : Nat} {σ : Sg} {k n pc : Nat} {lv : List (Nat × Value)} {st : List Value} {cc : ByteArray} {ret : Option FieldType} (E : Ev p s m args meth c RX6 cc nL ret d A) {o : Option Nat} {a : Nat} {x : Int32} (hd : decode cc pc = .ok (.getfield 82, 3)) (ho : o = some a) (hg : gc σ a = 3) (hx : gi σ 211 a = x) (kk : Gk p l e R s m args below meth c d A Q nL σ k n (pc + 3) lv (.int x :: st)) : Gk p l e R s m args below meth c d A Q nL σ k n pc lv (va_rf o :: st) := by
  subst hx
  exact r_get (ci := 2) (j := 11) (T := TX1) (rf := "FrameTalk$Machine") E hd wm_1_143 (fun _ h9 => h9) rfl (by decide) inw_2 (by decide) ho hg rfl kk
set_option maxRecDepth 20000 in
theorem gf_X6_85 {p : Program} {l : Launch} {e : Env} {R : Room} {s : State} {m : MethodId} {args : Array Value} {below : List Frame} {meth : Method} {c : Code} {d : Dp} {A : Nat → Prop} {Q : State → Prop} {nL : Nat} {σ : Sg} {k n pc : Nat} {lv : List (Nat × Value)} {st : List Value} {cc : ByteArray} {ret : Option FieldType} (E : Ev p s m args meth c RX6 cc nL ret d A) {o : Option Nat} {a : Nat} {x : Int32} (hd : decode cc pc = .ok (.getfield 85, 3)) (ho : o = some a) (hg : gc σ a = 3) (hx : gi σ 212 a = x) (kk : Gk p l e R s m args below meth c d A Q nL σ k n (pc + 3) lv (.int x :: st)) : Gk p l e R s m args below meth c d A Q nL σ k n pc lv (va_rf o :: st) := by
  subst hx
  exact r_get (ci := 2) (j := 12) (T := TX1) (rf := "FrameTalk$Machine") E hd wm_1_145 (fun _ h9 => h9) rfl (by decide) inw_2 (by decide) ho hg rfl kk
set_option maxRecDepth 20000 in
theorem gf_X6_88 {p : Program} {l : Launch} {e : Env} {R : Room} {s : State} {m : MethodId} {args : Array Value} {below : List Frame} {meth : Method} {c : Code} {d : Dp} {A : Nat → Prop} {Q : State → Prop} {nL : Nat} {σ : Sg} {k n pc : Nat} {lv : List (Nat × Value)} {st : List Value} {cc : ByteArray} {ret : Option FieldType} (E : Ev p s m args meth c RX6 cc nL ret d A) {o : Option Nat} {a : Nat} {x : Int32} (hd : decode cc pc = .ok (.getfield 88, 3)) (ho : o = some a) (hg : gc σ a = 3) (hx : gi σ 210 a = x) (kk : Gk p l e R s m args below meth c d A Q nL σ k n (pc + 3) lv (.int x :: st)) : Gk p l e R s m args below meth c d A Q nL σ k n pc lv (va_rf o :: st) := by
  subst hx
  exact r_get (ci := 2) (j := 10) (T := TX1) (rf := "FrameTalk$Machine") E hd wm_1_141 (fun _ h9 => h9) rfl (by decide) inw_2 (by decide) ho hg rfl kk
set_option maxRecDepth 20000 in
theorem cl_X6_91 {p : Program} {l : Launch} {e : Env} {R : Room} {s : State} {m : MethodId} {args : Array Value} {below : List Frame} {meth : Method} {c : Code} {d : Dp} {A : Nat → Prop} {Q : State → Prop} {nL : Nat} {σ : Sg} {k n pc : Nat} {lv : List (Nat × Value)} {cc : ByteArray} {ret : Option FieldType} (E : Ev p s m args meth c RX6 cc nL ret d A) {o : Option Nat} {b : Nat}   {rest : List Value} {σ1 : Sg} (hM : Mt l d yX4_clear cX4_clear 1 none 1 23 σ [.ref b] none σ1 0 0) (hd : decode cc pc = .ok (.invokevirtual 91, 3)) (hR : 1 + 1 ≤ R.frames ∧ 8 + (1 + 11) + 23 ≤ R.locals) (hf : k + 0 ≤ R.cells ∧ n + 0 ≤ R.slots) (hcat : (rest.map fun v => v.category).sum ≤ 8) (ho : o = some b) (hg : gc σ b = 6) (kk : Gk p l e R s m args below meth c d A Q nL σ1 k n (pc + 3) lv rest) : Gk p l e R s m args below meth c d A Q nL σ k n pc lv (va_rf o :: rest) :=
  r_cV (As := []) (rest := rest) (ci := 5) (nA := 0) E hM hd wm_3_116 wm_3_117 wm_3_118 wm_1_3 wm_3_119 rfl ⟨by decide, by decide, by decide +kernel⟩ rfl hR hf rfl (by decide) ho hg rfl hcat kk
set_option maxRecDepth 20000 in
theorem cl_X6_94 {p : Program} {l : Launch} {e : Env} {R : Room} {s : State} {m : MethodId} {args : Array Value} {below : List Frame} {meth : Method} {c : Code} {d : Dp} {A : Nat → Prop} {Q : State → Prop} {nL : Nat} {σ : Sg} {k n pc : Nat} {lv : List (Nat × Value)} {cc : ByteArray} {ret : Option FieldType} (E : Ev p s m args meth c RX6 cc nL ret d A) {o : Option Nat} {b : Nat}   {rest : List Value} {σ1 : Sg} (hM : Mt l d yX1_forget cX1_forget 2 none 0 0 σ [.ref b] none σ1 0 0) (hd : decode cc pc = .ok (.invokevirtual 94, 3)) (hR : 0 + 1 ≤ R.frames ∧ 8 + (2 + 11) + 0 ≤ R.locals) (hf : k + 0 ≤ R.cells ∧ n + 0 ≤ R.slots) (hcat : (rest.map fun v => v.category).sum ≤ 8) (ho : o = some b) (hg : gc σ b = 3) (kk : Gk p l e R s m args below meth c d A Q nL σ1 k n (pc + 3) lv rest) : Gk p l e R s m args below meth c d A Q nL σ k n pc lv (va_rf o :: rest) :=
  r_cV (As := []) (rest := rest) (ci := 2) (nA := 0) E hM hd wm_3_124 wm_3_125 wm_3_126 wm_1_2 wm_3_127 rfl ⟨by decide, by decide, by decide +kernel⟩ rfl hR hf rfl (by decide) ho hg rfl hcat kk
end
