section
-- ===== PART A: goes FIRST, ahead of the names: the tables' words, and 'selects' of the private methods out of them =====
/-- a private method of a class that the tables say can be made, by its rows of tables_1 -/
def lw_okq (q : MethodName × Nat) : Prop := (q.1.cls ≠ "java/lang/invoke/MethodHandle" ∧ q.1.cls ≠ "java/lang/invoke/VarHandle") ∧ Cond.instantiable q.1.cls q.2 ∈ tables_1 ∧ Cond.privateMethod q.1 ∈ tables_1 ∧ Cond.instanceMethod q.1 ∈ tables_1
theorem lw_p0 : lw_okq (⟨"FrameTalk$Program", "append", "(LFrameTalk$Node;)I"⟩, 1) := ⟨⟨by decide +kernel, by decide +kernel⟩, List.mem_of_getElem? (i := 33) (by decide +kernel), List.mem_of_getElem? (i := 222) (by decide +kernel), List.mem_of_getElem? (i := 223) (by decide +kernel)⟩
theorem lw_p1 : lw_okq (⟨"java/util/ArrayList", "add", "(Ljava/lang/Object;[Ljava/lang/Object;I)V"⟩, 3) := ⟨⟨by decide +kernel, by decide +kernel⟩, List.mem_of_getElem? (i := 39) (by decide +kernel), List.mem_of_getElem? (i := 230) (by decide +kernel), List.mem_of_getElem? (i := 231) (by decide +kernel)⟩
theorem lw_p2 : lw_okq (⟨"java/util/ArrayList", "grow", "()[Ljava/lang/Object;"⟩, 3) := ⟨⟨by decide +kernel, by decide +kernel⟩, List.mem_of_getElem? (i := 39) (by decide +kernel), List.mem_of_getElem? (i := 234) (by decide +kernel), List.mem_of_getElem? (i := 235) (by decide +kernel)⟩
theorem lw_p3 : lw_okq (⟨"java/util/ArrayList", "grow", "(I)[Ljava/lang/Object;"⟩, 3) := ⟨⟨by decide +kernel, by decide +kernel⟩, List.mem_of_getElem? (i := 39) (by decide +kernel), List.mem_of_getElem? (i := 238) (by decide +kernel), List.mem_of_getElem? (i := 239) (by decide +kernel)⟩
theorem lw_p4 : lw_okq (⟨"FrameTalk$Machine", "clearFault", "()V"⟩, 13) := ⟨⟨by decide +kernel, by decide +kernel⟩, List.mem_of_getElem? (i := 27) (by decide +kernel), List.mem_of_getElem? (i := 336) (by decide +kernel), List.mem_of_getElem? (i := 337) (by decide +kernel)⟩
theorem lw_p5 : lw_okq (⟨"FrameTalk$Machine", "failAt", "(II)LFrameTalk$Thing;"⟩, 13) := ⟨⟨by decide +kernel, by decide +kernel⟩, List.mem_of_getElem? (i := 27) (by decide +kernel), List.mem_of_getElem? (i := 344) (by decide +kernel), List.mem_of_getElem? (i := 345) (by decide +kernel)⟩
theorem lw_p6 : lw_okq (⟨"FrameTalk$Machine", "open", "(LFrameTalk$Node;)V"⟩, 13) := ⟨⟨by decide +kernel, by decide +kernel⟩, List.mem_of_getElem? (i := 27) (by decide +kernel), List.mem_of_getElem? (i := 348) (by decide +kernel), List.mem_of_getElem? (i := 349) (by decide +kernel)⟩
theorem lw_p7 : lw_okq (⟨"FrameTalk$Machine", "passFault", "(LFrameTalk$Frame;)V"⟩, 13) := ⟨⟨by decide +kernel, by decide +kernel⟩, List.mem_of_getElem? (i := 27) (by decide +kernel), List.mem_of_getElem? (i := 367) (by decide +kernel), List.mem_of_getElem? (i := 368) (by decide +kernel)⟩
theorem lw_p8 : lw_okq (⟨"FrameTalk$Machine", "takesFault", "(LFrameTalk$Frame;)Z"⟩, 13) := ⟨⟨by decide +kernel, by decide +kernel⟩, List.mem_of_getElem? (i := 27) (by decide +kernel), List.mem_of_getElem? (i := 371) (by decide +kernel), List.mem_of_getElem? (i := 372) (by decide +kernel)⟩
theorem lw_p9 : lw_okq (⟨"FrameTalk$Machine", "workPart", "(LFrameTalk$Frame;I)V"⟩, 13) := ⟨⟨by decide +kernel, by decide +kernel⟩, List.mem_of_getElem? (i := 27) (by decide +kernel), List.mem_of_getElem? (i := 421) (by decide +kernel), List.mem_of_getElem? (i := 422) (by decide +kernel)⟩
theorem lw_p10 : lw_okq (⟨"FrameTalk$Machine", "nextPart", "(LFrameTalk$Frame;)I"⟩, 13) := ⟨⟨by decide +kernel, by decide +kernel⟩, List.mem_of_getElem? (i := 27) (by decide +kernel), List.mem_of_getElem? (i := 426) (by decide +kernel), List.mem_of_getElem? (i := 427) (by decide +kernel)⟩
theorem lw_p11 : lw_okq (⟨"FrameTalk$Machine", "nextOfIf", "(LFrameTalk$Frame;)I"⟩, 13) := ⟨⟨by decide +kernel, by decide +kernel⟩, List.mem_of_getElem? (i := 27) (by decide +kernel), List.mem_of_getElem? (i := 430) (by decide +kernel), List.mem_of_getElem? (i := 431) (by decide +kernel)⟩
theorem lw_p12 : lw_okq (⟨"FrameTalk$Machine", "lacks", "(LFrameTalk$Frame;LFrameTalk$Thing;I)Z"⟩, 13) := ⟨⟨by decide +kernel, by decide +kernel⟩, List.mem_of_getElem? (i := 27) (by decide +kernel), List.mem_of_getElem? (i := 434) (by decide +kernel), List.mem_of_getElem? (i := 435) (by decide +kernel)⟩
theorem lw_p13 : lw_okq (⟨"FrameTalk$Machine", "nextOfTimes", "(LFrameTalk$Frame;)I"⟩, 13) := ⟨⟨by decide +kernel, by decide +kernel⟩, List.mem_of_getElem? (i := 27) (by decide +kernel), List.mem_of_getElem? (i := 442) (by decide +kernel), List.mem_of_getElem? (i := 443) (by decide +kernel)⟩
theorem lw_p14 : lw_okq (⟨"FrameTalk$Machine", "nextInOrder", "(LFrameTalk$Frame;)I"⟩, 13) := ⟨⟨by decide +kernel, by decide +kernel⟩, List.mem_of_getElem? (i := 27) (by decide +kernel), List.mem_of_getElem? (i := 446) (by decide +kernel), List.mem_of_getElem? (i := 447) (by decide +kernel)⟩
theorem lw_p15 : lw_okq (⟨"FrameTalk$Machine", "finish", "(LFrameTalk$Frame;)LFrameTalk$Thing;"⟩, 13) := ⟨⟨by decide +kernel, by decide +kernel⟩, List.mem_of_getElem? (i := 27) (by decide +kernel), List.mem_of_getElem? (i := 451) (by decide +kernel), List.mem_of_getElem? (i := 452) (by decide +kernel)⟩
def lw_privs_1 : List (MethodName × Nat) := [(⟨"FrameTalk$Program", "append", "(LFrameTalk$Node;)I"⟩, 1), (⟨"java/util/ArrayList", "add", "(Ljava/lang/Object;[Ljava/lang/Object;I)V"⟩, 3), (⟨"java/util/ArrayList", "grow", "()[Ljava/lang/Object;"⟩, 3), (⟨"java/util/ArrayList", "grow", "(I)[Ljava/lang/Object;"⟩, 3), (⟨"FrameTalk$Machine", "clearFault", "()V"⟩, 13), (⟨"FrameTalk$Machine", "failAt", "(II)LFrameTalk$Thing;"⟩, 13), (⟨"FrameTalk$Machine", "open", "(LFrameTalk$Node;)V"⟩, 13), (⟨"FrameTalk$Machine", "passFault", "(LFrameTalk$Frame;)V"⟩, 13), (⟨"FrameTalk$Machine", "takesFault", "(LFrameTalk$Frame;)Z"⟩, 13), (⟨"FrameTalk$Machine", "workPart", "(LFrameTalk$Frame;I)V"⟩, 13), (⟨"FrameTalk$Machine", "nextPart", "(LFrameTalk$Frame;)I"⟩, 13), (⟨"FrameTalk$Machine", "nextOfIf", "(LFrameTalk$Frame;)I"⟩, 13), (⟨"FrameTalk$Machine", "lacks", "(LFrameTalk$Frame;LFrameTalk$Thing;I)Z"⟩, 13), (⟨"FrameTalk$Machine", "nextOfTimes", "(LFrameTalk$Frame;)I"⟩, 13), (⟨"FrameTalk$Machine", "nextInOrder", "(LFrameTalk$Frame;)I"⟩, 13), (⟨"FrameTalk$Machine", "finish", "(LFrameTalk$Frame;)LFrameTalk$Thing;"⟩, 13)]
theorem lw_r1 : ∀ q ∈ lw_privs_1, lw_okq q := List.forall_mem_cons.mpr ⟨lw_p0, List.forall_mem_cons.mpr ⟨lw_p1, List.forall_mem_cons.mpr ⟨lw_p2, List.forall_mem_cons.mpr ⟨lw_p3, List.forall_mem_cons.mpr ⟨lw_p4, List.forall_mem_cons.mpr ⟨lw_p5, List.forall_mem_cons.mpr ⟨lw_p6, List.forall_mem_cons.mpr ⟨lw_p7, List.forall_mem_cons.mpr ⟨lw_p8, List.forall_mem_cons.mpr ⟨lw_p9, List.forall_mem_cons.mpr ⟨lw_p10, List.forall_mem_cons.mpr ⟨lw_p11, List.forall_mem_cons.mpr ⟨lw_p12, List.forall_mem_cons.mpr ⟨lw_p13, List.forall_mem_cons.mpr ⟨lw_p14, List.forall_mem_cons.mpr ⟨lw_p15, fun _ h => absurd h List.not_mem_nil⟩⟩⟩⟩⟩⟩⟩⟩⟩⟩⟩⟩⟩⟩⟩⟩
theorem lw_p16 : lw_okq (⟨"FrameTalk$Machine", "useSlot", "(LFrameTalk$Frame;)LFrameTalk$Thing;"⟩, 13) := ⟨⟨by decide +kernel, by decide +kernel⟩, List.mem_of_getElem? (i := 27) (by decide +kernel), List.mem_of_getElem? (i := 455) (by decide +kernel), List.mem_of_getElem? (i := 456) (by decide +kernel)⟩
theorem lw_p17 : lw_okq (⟨"FrameTalk$Machine", "isSlot", "(I)Z"⟩, 13) := ⟨⟨by decide +kernel, by decide +kernel⟩, List.mem_of_getElem? (i := 27) (by decide +kernel), List.mem_of_getElem? (i := 459) (by decide +kernel), List.mem_of_getElem? (i := 460) (by decide +kernel)⟩
theorem lw_p18 : lw_okq (⟨"FrameTalk$Machine", "field", "(LFrameTalk$Frame;)LFrameTalk$Thing;"⟩, 13) := ⟨⟨by decide +kernel, by decide +kernel⟩, List.mem_of_getElem? (i := 27) (by decide +kernel), List.mem_of_getElem? (i := 467) (by decide +kernel), List.mem_of_getElem? (i := 468) (by decide +kernel)⟩
theorem lw_p19 : lw_okq (⟨"FrameTalk$Machine", "store", "(LFrameTalk$Frame;)LFrameTalk$Thing;"⟩, 13) := ⟨⟨by decide +kernel, by decide +kernel⟩, List.mem_of_getElem? (i := 27) (by decide +kernel), List.mem_of_getElem? (i := 471) (by decide +kernel), List.mem_of_getElem? (i := 472) (by decide +kernel)⟩
theorem lw_p20 : lw_okq (⟨"FrameTalk$Machine", "side", "(LFrameTalk$Frame;)LFrameTalk$Thing;"⟩, 13) := ⟨⟨by decide +kernel, by decide +kernel⟩, List.mem_of_getElem? (i := 27) (by decide +kernel), List.mem_of_getElem? (i := 475) (by decide +kernel), List.mem_of_getElem? (i := 476) (by decide +kernel)⟩
theorem lw_p21 : lw_okq (⟨"FrameTalk$Machine", "send", "(LFrameTalk$Frame;)LFrameTalk$Thing;"⟩, 13) := ⟨⟨by decide +kernel, by decide +kernel⟩, List.mem_of_getElem? (i := 27) (by decide +kernel), List.mem_of_getElem? (i := 479) (by decide +kernel), List.mem_of_getElem? (i := 480) (by decide +kernel)⟩
theorem lw_p22 : lw_okq (⟨"FrameTalk$Machine", "reckon", "(LFrameTalk$Frame;ILFrameTalk$Thing;)LFrameTalk$Thing;"⟩, 13) := ⟨⟨by decide +kernel, by decide +kernel⟩, List.mem_of_getElem? (i := 27) (by decide +kernel), List.mem_of_getElem? (i := 483) (by decide +kernel), List.mem_of_getElem? (i := 484) (by decide +kernel)⟩
theorem lw_p23 : lw_okq (⟨"FrameTalk$Machine", "row", "(LFrameTalk$Frame;)LFrameTalk$Thing;"⟩, 13) := ⟨⟨by decide +kernel, by decide +kernel⟩, List.mem_of_getElem? (i := 27) (by decide +kernel), List.mem_of_getElem? (i := 487) (by decide +kernel), List.mem_of_getElem? (i := 488) (by decide +kernel)⟩
theorem lw_p24 : lw_okq (⟨"FrameTalk$Machine", "put", "(LFrameTalk$Frame;)LFrameTalk$Thing;"⟩, 13) := ⟨⟨by decide +kernel, by decide +kernel⟩, List.mem_of_getElem? (i := 27) (by decide +kernel), List.mem_of_getElem? (i := 505) (by decide +kernel), List.mem_of_getElem? (i := 506) (by decide +kernel)⟩
theorem lw_p25 : lw_okq (⟨"FrameTalk$Machine", "lacksPlace", "(LFrameTalk$Frame;)Z"⟩, 13) := ⟨⟨by decide +kernel, by decide +kernel⟩, List.mem_of_getElem? (i := 27) (by decide +kernel), List.mem_of_getElem? (i := 509) (by decide +kernel), List.mem_of_getElem? (i := 510) (by decide +kernel)⟩
theorem lw_p26 : lw_okq (⟨"FrameTalk$Machine", "at", "(LFrameTalk$Frame;)LFrameTalk$Thing;"⟩, 13) := ⟨⟨by decide +kernel, by decide +kernel⟩, List.mem_of_getElem? (i := 27) (by decide +kernel), List.mem_of_getElem? (i := 522) (by decide +kernel), List.mem_of_getElem? (i := 523) (by decide +kernel)⟩
theorem lw_p27 : lw_okq (⟨"FrameTalk$Machine", "size", "(LFrameTalk$Frame;)LFrameTalk$Thing;"⟩, 13) := ⟨⟨by decide +kernel, by decide +kernel⟩, List.mem_of_getElem? (i := 27) (by decide +kernel), List.mem_of_getElem? (i := 526) (by decide +kernel), List.mem_of_getElem? (i := 527) (by decide +kernel)⟩
theorem lw_p28 : lw_okq (⟨"FrameTalk$Machine", "hold", "(LFrameTalk$Frame;)LFrameTalk$Thing;"⟩, 13) := ⟨⟨by decide +kernel, by decide +kernel⟩, List.mem_of_getElem? (i := 27) (by decide +kernel), List.mem_of_getElem? (i := 530) (by decide +kernel), List.mem_of_getElem? (i := 531) (by decide +kernel)⟩
theorem lw_p29 : lw_okq (⟨"FrameTalk$Machine", "close", "(LFrameTalk$Frame;LFrameTalk$Thing;)V"⟩, 13) := ⟨⟨by decide +kernel, by decide +kernel⟩, List.mem_of_getElem? (i := 27) (by decide +kernel), List.mem_of_getElem? (i := 534) (by decide +kernel), List.mem_of_getElem? (i := 535) (by decide +kernel)⟩
theorem lw_p30 : lw_okq (⟨"FrameTalk$Thing", "placesOrNone", "()I"⟩, 7) := ⟨⟨by decide +kernel, by decide +kernel⟩, List.mem_of_getElem? (i := 383) (by decide +kernel), List.mem_of_getElem? (i := 570) (by decide +kernel), List.mem_of_getElem? (i := 571) (by decide +kernel)⟩
theorem lw_p31 : lw_okq (⟨"FrameTalk$Thing", "useOrNone", "()I"⟩, 7) := ⟨⟨by decide +kernel, by decide +kernel⟩, List.mem_of_getElem? (i := 383) (by decide +kernel), List.mem_of_getElem? (i := 577) (by decide +kernel), List.mem_of_getElem? (i := 578) (by decide +kernel)⟩
def lw_privs_2 : List (MethodName × Nat) := [(⟨"FrameTalk$Machine", "useSlot", "(LFrameTalk$Frame;)LFrameTalk$Thing;"⟩, 13), (⟨"FrameTalk$Machine", "isSlot", "(I)Z"⟩, 13), (⟨"FrameTalk$Machine", "field", "(LFrameTalk$Frame;)LFrameTalk$Thing;"⟩, 13), (⟨"FrameTalk$Machine", "store", "(LFrameTalk$Frame;)LFrameTalk$Thing;"⟩, 13), (⟨"FrameTalk$Machine", "side", "(LFrameTalk$Frame;)LFrameTalk$Thing;"⟩, 13), (⟨"FrameTalk$Machine", "send", "(LFrameTalk$Frame;)LFrameTalk$Thing;"⟩, 13), (⟨"FrameTalk$Machine", "reckon", "(LFrameTalk$Frame;ILFrameTalk$Thing;)LFrameTalk$Thing;"⟩, 13), (⟨"FrameTalk$Machine", "row", "(LFrameTalk$Frame;)LFrameTalk$Thing;"⟩, 13), (⟨"FrameTalk$Machine", "put", "(LFrameTalk$Frame;)LFrameTalk$Thing;"⟩, 13), (⟨"FrameTalk$Machine", "lacksPlace", "(LFrameTalk$Frame;)Z"⟩, 13), (⟨"FrameTalk$Machine", "at", "(LFrameTalk$Frame;)LFrameTalk$Thing;"⟩, 13), (⟨"FrameTalk$Machine", "size", "(LFrameTalk$Frame;)LFrameTalk$Thing;"⟩, 13), (⟨"FrameTalk$Machine", "hold", "(LFrameTalk$Frame;)LFrameTalk$Thing;"⟩, 13), (⟨"FrameTalk$Machine", "close", "(LFrameTalk$Frame;LFrameTalk$Thing;)V"⟩, 13), (⟨"FrameTalk$Thing", "placesOrNone", "()I"⟩, 7), (⟨"FrameTalk$Thing", "useOrNone", "()I"⟩, 7)]
theorem lw_r2 : ∀ q ∈ lw_privs_2, lw_okq q := List.forall_mem_cons.mpr ⟨lw_p16, List.forall_mem_cons.mpr ⟨lw_p17, List.forall_mem_cons.mpr ⟨lw_p18, List.forall_mem_cons.mpr ⟨lw_p19, List.forall_mem_cons.mpr ⟨lw_p20, List.forall_mem_cons.mpr ⟨lw_p21, List.forall_mem_cons.mpr ⟨lw_p22, List.forall_mem_cons.mpr ⟨lw_p23, List.forall_mem_cons.mpr ⟨lw_p24, List.forall_mem_cons.mpr ⟨lw_p25, List.forall_mem_cons.mpr ⟨lw_p26, List.forall_mem_cons.mpr ⟨lw_p27, List.forall_mem_cons.mpr ⟨lw_p28, List.forall_mem_cons.mpr ⟨lw_p29, List.forall_mem_cons.mpr ⟨lw_p30, List.forall_mem_cons.mpr ⟨lw_p31, fun _ h => absurd h List.not_mem_nil⟩⟩⟩⟩⟩⟩⟩⟩⟩⟩⟩⟩⟩⟩⟩⟩
theorem lw_p32 : lw_okq (⟨"FrameTalkModel", "join", "(III)V"⟩, 28) := ⟨⟨by decide +kernel, by decide +kernel⟩, List.mem_of_getElem? (i := 609) (by decide +kernel), List.mem_of_getElem? (i := 711) (by decide +kernel), List.mem_of_getElem? (i := 712) (by decide +kernel)⟩
theorem lw_p33 : lw_okq (⟨"FrameTalkModel", "isNode", "(II)Z"⟩, 28) := ⟨⟨by decide +kernel, by decide +kernel⟩, List.mem_of_getElem? (i := 609) (by decide +kernel), List.mem_of_getElem? (i := 715) (by decide +kernel), List.mem_of_getElem? (i := 716) (by decide +kernel)⟩
theorem lw_p34 : lw_okq (⟨"FrameTalkModel", "enter", "(I)V"⟩, 28) := ⟨⟨by decide +kernel, by decide +kernel⟩, List.mem_of_getElem? (i := 609) (by decide +kernel), List.mem_of_getElem? (i := 727) (by decide +kernel), List.mem_of_getElem? (i := 728) (by decide +kernel)⟩
theorem lw_p35 : lw_okq (⟨"FrameTalkModel", "fail", "(II)I"⟩, 28) := ⟨⟨by decide +kernel, by decide +kernel⟩, List.mem_of_getElem? (i := 609) (by decide +kernel), List.mem_of_getElem? (i := 731) (by decide +kernel), List.mem_of_getElem? (i := 732) (by decide +kernel)⟩
theorem lw_p36 : lw_okq (⟨"FrameTalkModel", "outward", "(I)V"⟩, 28) := ⟨⟨by decide +kernel, by decide +kernel⟩, List.mem_of_getElem? (i := 609) (by decide +kernel), List.mem_of_getElem? (i := 735) (by decide +kernel), List.mem_of_getElem? (i := 736) (by decide +kernel)⟩
theorem lw_p37 : lw_okq (⟨"FrameTalkModel", "number", "(II)I"⟩, 28) := ⟨⟨by decide +kernel, by decide +kernel⟩, List.mem_of_getElem? (i := 609) (by decide +kernel), List.mem_of_getElem? (i := 739) (by decide +kernel), List.mem_of_getElem? (i := 740) (by decide +kernel)⟩
theorem lw_p38 : lw_okq (⟨"FrameTalkModel", "num", "(J)I"⟩, 28) := ⟨⟨by decide +kernel, by decide +kernel⟩, List.mem_of_getElem? (i := 609) (by decide +kernel), List.mem_of_getElem? (i := 743) (by decide +kernel), List.mem_of_getElem? (i := 744) (by decide +kernel)⟩
theorem lw_p39 : lw_okq (⟨"FrameTalkModel", "make", "(IJII)I"⟩, 28) := ⟨⟨by decide +kernel, by decide +kernel⟩, List.mem_of_getElem? (i := 609) (by decide +kernel), List.mem_of_getElem? (i := 747) (by decide +kernel), List.mem_of_getElem? (i := 748) (by decide +kernel)⟩
theorem lw_p40 : lw_okq (⟨"FrameTalkModel", "begin", "(II)V"⟩, 28) := ⟨⟨by decide +kernel, by decide +kernel⟩, List.mem_of_getElem? (i := 609) (by decide +kernel), List.mem_of_getElem? (i := 751) (by decide +kernel), List.mem_of_getElem? (i := 752) (by decide +kernel)⟩
theorem lw_p41 : lw_okq (⟨"FrameTalkModel", "forward", "(I)V"⟩, 28) := ⟨⟨by decide +kernel, by decide +kernel⟩, List.mem_of_getElem? (i := 609) (by decide +kernel), List.mem_of_getElem? (i := 755) (by decide +kernel), List.mem_of_getElem? (i := 756) (by decide +kernel)⟩
theorem lw_p42 : lw_okq (⟨"FrameTalkModel", "part0", "(I)V"⟩, 28) := ⟨⟨by decide +kernel, by decide +kernel⟩, List.mem_of_getElem? (i := 609) (by decide +kernel), List.mem_of_getElem? (i := 759) (by decide +kernel), List.mem_of_getElem? (i := 760) (by decide +kernel)⟩
theorem lw_p43 : lw_okq (⟨"FrameTalkModel", "choose", "(I)V"⟩, 28) := ⟨⟨by decide +kernel, by decide +kernel⟩, List.mem_of_getElem? (i := 609) (by decide +kernel), List.mem_of_getElem? (i := 763) (by decide +kernel), List.mem_of_getElem? (i := 764) (by decide +kernel)⟩
theorem lw_p44 : lw_okq (⟨"FrameTalkModel", "is", "(III)Z"⟩, 28) := ⟨⟨by decide +kernel, by decide +kernel⟩, List.mem_of_getElem? (i := 609) (by decide +kernel), List.mem_of_getElem? (i := 767) (by decide +kernel), List.mem_of_getElem? (i := 768) (by decide +kernel)⟩
theorem lw_p45 : lw_okq (⟨"FrameTalkModel", "again", "(I)V"⟩, 28) := ⟨⟨by decide +kernel, by decide +kernel⟩, List.mem_of_getElem? (i := 609) (by decide +kernel), List.mem_of_getElem? (i := 771) (by decide +kernel), List.mem_of_getElem? (i := 772) (by decide +kernel)⟩
theorem lw_p46 : lw_okq (⟨"FrameTalkModel", "eager", "(I)V"⟩, 28) := ⟨⟨by decide +kernel, by decide +kernel⟩, List.mem_of_getElem? (i := 609) (by decide +kernel), List.mem_of_getElem? (i := 775) (by decide +kernel), List.mem_of_getElem? (i := 776) (by decide +kernel)⟩
theorem lw_p47 : lw_okq (⟨"FrameTalkModel", "act", "(IIII)I"⟩, 28) := ⟨⟨by decide +kernel, by decide +kernel⟩, List.mem_of_getElem? (i := 609) (by decide +kernel), List.mem_of_getElem? (i := 779) (by decide +kernel), List.mem_of_getElem? (i := 780) (by decide +kernel)⟩
def lw_privs_3 : List (MethodName × Nat) := [(⟨"FrameTalkModel", "join", "(III)V"⟩, 28), (⟨"FrameTalkModel", "isNode", "(II)Z"⟩, 28), (⟨"FrameTalkModel", "enter", "(I)V"⟩, 28), (⟨"FrameTalkModel", "fail", "(II)I"⟩, 28), (⟨"FrameTalkModel", "outward", "(I)V"⟩, 28), (⟨"FrameTalkModel", "number", "(II)I"⟩, 28), (⟨"FrameTalkModel", "num", "(J)I"⟩, 28), (⟨"FrameTalkModel", "make", "(IJII)I"⟩, 28), (⟨"FrameTalkModel", "begin", "(II)V"⟩, 28), (⟨"FrameTalkModel", "forward", "(I)V"⟩, 28), (⟨"FrameTalkModel", "part0", "(I)V"⟩, 28), (⟨"FrameTalkModel", "choose", "(I)V"⟩, 28), (⟨"FrameTalkModel", "is", "(III)Z"⟩, 28), (⟨"FrameTalkModel", "again", "(I)V"⟩, 28), (⟨"FrameTalkModel", "eager", "(I)V"⟩, 28), (⟨"FrameTalkModel", "act", "(IIII)I"⟩, 28)]
theorem lw_r3 : ∀ q ∈ lw_privs_3, lw_okq q := List.forall_mem_cons.mpr ⟨lw_p32, List.forall_mem_cons.mpr ⟨lw_p33, List.forall_mem_cons.mpr ⟨lw_p34, List.forall_mem_cons.mpr ⟨lw_p35, List.forall_mem_cons.mpr ⟨lw_p36, List.forall_mem_cons.mpr ⟨lw_p37, List.forall_mem_cons.mpr ⟨lw_p38, List.forall_mem_cons.mpr ⟨lw_p39, List.forall_mem_cons.mpr ⟨lw_p40, List.forall_mem_cons.mpr ⟨lw_p41, List.forall_mem_cons.mpr ⟨lw_p42, List.forall_mem_cons.mpr ⟨lw_p43, List.forall_mem_cons.mpr ⟨lw_p44, List.forall_mem_cons.mpr ⟨lw_p45, List.forall_mem_cons.mpr ⟨lw_p46, List.forall_mem_cons.mpr ⟨lw_p47, fun _ h => absurd h List.not_mem_nil⟩⟩⟩⟩⟩⟩⟩⟩⟩⟩⟩⟩⟩⟩⟩⟩
theorem lw_p48 : lw_okq (⟨"FrameTalkModel", "simple", "(IIII)I"⟩, 28) := ⟨⟨by decide +kernel, by decide +kernel⟩, List.mem_of_getElem? (i := 609) (by decide +kernel), List.mem_of_getElem? (i := 783) (by decide +kernel), List.mem_of_getElem? (i := 784) (by decide +kernel)⟩
theorem lw_p49 : lw_okq (⟨"FrameTalkModel", "noSlot", "(II)Z"⟩, 28) := ⟨⟨by decide +kernel, by decide +kernel⟩, List.mem_of_getElem? (i := 609) (by decide +kernel), List.mem_of_getElem? (i := 787) (by decide +kernel), List.mem_of_getElem? (i := 788) (by decide +kernel)⟩
theorem lw_p50 : lw_okq (⟨"FrameTalkModel", "send", "(III)I"⟩, 28) := ⟨⟨by decide +kernel, by decide +kernel⟩, List.mem_of_getElem? (i := 609) (by decide +kernel), List.mem_of_getElem? (i := 791) (by decide +kernel), List.mem_of_getElem? (i := 792) (by decide +kernel)⟩
theorem lw_p51 : lw_okq (⟨"FrameTalkModel", "reckon", "(IIJJ)I"⟩, 28) := ⟨⟨by decide +kernel, by decide +kernel⟩, List.mem_of_getElem? (i := 609) (by decide +kernel), List.mem_of_getElem? (i := 795) (by decide +kernel), List.mem_of_getElem? (i := 796) (by decide +kernel)⟩
theorem lw_p52 : lw_okq (⟨"FrameTalkModel", "larger", "(IIII)I"⟩, 28) := ⟨⟨by decide +kernel, by decide +kernel⟩, List.mem_of_getElem? (i := 609) (by decide +kernel), List.mem_of_getElem? (i := 800) (by decide +kernel), List.mem_of_getElem? (i := 801) (by decide +kernel)⟩
theorem lw_p53 : lw_okq (⟨"FrameTalkModel", "newRow", "(II)I"⟩, 28) := ⟨⟨by decide +kernel, by decide +kernel⟩, List.mem_of_getElem? (i := 609) (by decide +kernel), List.mem_of_getElem? (i := 804) (by decide +kernel), List.mem_of_getElem? (i := 805) (by decide +kernel)⟩
theorem lw_p54 : lw_okq (⟨"FrameTalkModel", "inRow", "(IIII)I"⟩, 28) := ⟨⟨by decide +kernel, by decide +kernel⟩, List.mem_of_getElem? (i := 609) (by decide +kernel), List.mem_of_getElem? (i := 808) (by decide +kernel), List.mem_of_getElem? (i := 809) (by decide +kernel)⟩
theorem lw_p55 : lw_okq (⟨"FrameTalkModel", "thingAt", "(I)I"⟩, 28) := ⟨⟨by decide +kernel, by decide +kernel⟩, List.mem_of_getElem? (i := 609) (by decide +kernel), List.mem_of_getElem? (i := 816) (by decide +kernel), List.mem_of_getElem? (i := 817) (by decide +kernel)⟩
def lw_privs_4 : List (MethodName × Nat) := [(⟨"FrameTalkModel", "simple", "(IIII)I"⟩, 28), (⟨"FrameTalkModel", "noSlot", "(II)Z"⟩, 28), (⟨"FrameTalkModel", "send", "(III)I"⟩, 28), (⟨"FrameTalkModel", "reckon", "(IIJJ)I"⟩, 28), (⟨"FrameTalkModel", "larger", "(IIII)I"⟩, 28), (⟨"FrameTalkModel", "newRow", "(II)I"⟩, 28), (⟨"FrameTalkModel", "inRow", "(IIII)I"⟩, 28), (⟨"FrameTalkModel", "thingAt", "(I)I"⟩, 28)]
theorem lw_r4 : ∀ q ∈ lw_privs_4, lw_okq q := List.forall_mem_cons.mpr ⟨lw_p48, List.forall_mem_cons.mpr ⟨lw_p49, List.forall_mem_cons.mpr ⟨lw_p50, List.forall_mem_cons.mpr ⟨lw_p51, List.forall_mem_cons.mpr ⟨lw_p52, List.forall_mem_cons.mpr ⟨lw_p53, List.forall_mem_cons.mpr ⟨lw_p54, List.forall_mem_cons.mpr ⟨lw_p55, fun _ h => absurd h List.not_mem_nil⟩⟩⟩⟩⟩⟩⟩⟩
def lw_privs : List (MethodName × Nat) := lw_privs_1 ++ (lw_privs_2 ++ (lw_privs_3 ++ (lw_privs_4)))
def lw_tbl : List Cond := k2_sels lw_privs ++ tables_1
theorem lw_privs_ok : ∀ q ∈ lw_privs, lw_okq q := by
  show ∀ q ∈ lw_privs_1 ++ (lw_privs_2 ++ (lw_privs_3 ++ (lw_privs_4))), lw_okq q
  exact List.forall_mem_append.mpr ⟨lw_r1, List.forall_mem_append.mpr ⟨lw_r2, List.forall_mem_append.mpr ⟨lw_r3, lw_r4⟩⟩⟩
end
section
def RX0 : String := "FrameTalk$Frame"
def TX0 : u_T := fun k => match k with
  | 0 => ("FrameTalk$Frame", "outer", "LFrameTalk$Frame;", true)
  | 1 => ("FrameTalk$Frame", "depth", "I", true)
  | 2 => ("FrameTalk$Frame", "inner", "LFrameTalk$Frame;", false)
  | 3 => ("FrameTalk$Frame", "node", "LFrameTalk$Node;", false)
  | 4 => ("FrameTalk$Frame", "working", "I", false)
  | 5 => ("FrameTalk$Frame", "a", "LFrameTalk$Thing;", false)
  | 6 => ("FrameTalk$Frame", "b", "LFrameTalk$Thing;", false)
  | 7 => ("FrameTalk$Frame", "c", "LFrameTalk$Thing;", false)
  | 8 => ("FrameTalk$Frame", "latest", "LFrameTalk$Thing;", false)
  | _ => ("FrameTalk$Frame", "left", "J", false)
def tyX0 : Nat → FieldType := fun k => match k with
  | 0 => .object "FrameTalk$Frame"
  | 1 => .int
  | 2 => .object "FrameTalk$Frame"
  | 3 => .object "FrameTalk$Node"
  | 4 => .int
  | 5 => .object "FrameTalk$Thing"
  | 6 => .object "FrameTalk$Thing"
  | 7 => .object "FrameTalk$Thing"
  | 8 => .object "FrameTalk$Thing"
  | _ => .long
abbrev wsX00 : List Cond := u_ws RX0 TX0 10
theorem nmX0 : ∀ a, a < 10 → ∀ b, b < 10 → a ≠ b → (TX0 a).2.1 ≠ (TX0 b).2.1 := by decide +kernel
theorem tyX0_ok : ∀ k, k < 10 → parseFieldDescriptor (TX0 k).2.2.1 = some (tyX0 k) := by decide +kernel
abbrev cX0_init : ByteArray := prog_2_method_1_code
def yX0_init : MethodName := ⟨RX0, "<init>", "(LFrameTalk$Frame;I)V"⟩
abbrev cX0_within : ByteArray := prog_2_method_2_code
def yX0_within : MethodName := ⟨RX0, "within", "()LFrameTalk$Frame;"⟩
abbrev cX0_begin : ByteArray := prog_2_method_3_code
def yX0_begin : MethodName := ⟨RX0, "begin", "(LFrameTalk$Node;)V"⟩
abbrev cX0_receive : ByteArray := prog_2_method_4_code
def yX0_receive : MethodName := ⟨RX0, "receive", "(LFrameTalk$Thing;)V"⟩
def RX1 : String := "FrameTalk$Machine"
def TX1 : u_T := fun k => match k with
  | 0 => ("FrameTalk$Machine", "program", "LFrameTalk$Program;", true)
  | 1 => ("FrameTalk$Machine", "maker", "LFrameTalk$Maker;", true)
  | 2 => ("FrameTalk$Machine", "slots", "[LFrameTalk$Thing;", true)
  | 3 => ("FrameTalk$Machine", "outermost", "LFrameTalk$Frame;", true)
  | 4 => ("FrameTalk$Machine", "top", "LFrameTalk$Frame;", false)
  | 5 => ("FrameTalk$Machine", "held", "LFrameTalk$Thing;", false)
  | 6 => ("FrameTalk$Machine", "gave", "LFrameTalk$Thing;", false)
  | 7 => ("FrameTalk$Machine", "stepsUsedEver", "I", false)
  | 8 => ("FrameTalk$Machine", "stepsAllowed", "I", false)
  | 9 => ("FrameTalk$Machine", "spent", "Z", false)
  | 10 => ("FrameTalk$Machine", "stepsTaken", "I", false)
  | 11 => ("FrameTalk$Machine", "faultKind", "I", false)
  | _ => ("FrameTalk$Machine", "faultAt", "I", false)
def tyX1 : Nat → FieldType := fun k => match k with
  | 0 => .object "FrameTalk$Program"
  | 1 => .object "FrameTalk$Maker"
  | 2 => .array (.object "FrameTalk$Thing")
  | 3 => .object "FrameTalk$Frame"
  | 4 => .object "FrameTalk$Frame"
  | 5 => .object "FrameTalk$Thing"
  | 6 => .object "FrameTalk$Thing"
  | 7 => .int
  | 8 => .int
  | 9 => .boolean
  | 10 => .int
  | 11 => .int
  | _ => .int
abbrev wsX10 : List Cond := u_ws RX1 TX1 13
theorem nmX1 : ∀ a, a < 13 → ∀ b, b < 13 → a ≠ b → (TX1 a).2.1 ≠ (TX1 b).2.1 := by decide +kernel
theorem tyX1_ok : ∀ k, k < 13 → parseFieldDescriptor (TX1 k).2.2.1 = some (tyX1 k) := by decide +kernel
abbrev cX1_init : ByteArray := prog_3_method_1_code
def yX1_init : MethodName := ⟨RX1, "<init>", "()V"⟩
abbrev cX1_canSee : ByteArray := prog_3_method_2_code
def yX1_canSee : MethodName := ⟨RX1, "canSee", "(I)Z"⟩
abbrev cX1_seenAt : ByteArray := prog_3_method_3_code
def yX1_seenAt : MethodName := ⟨RX1, "seenAt", "(I)LFrameTalk$Thing;"⟩
abbrev cX1_forget : ByteArray := prog_3_method_4_code
def yX1_forget : MethodName := ⟨RX1, "forget", "()V"⟩
abbrev cX1_begin : ByteArray := prog_3_method_5_code
def yX1_begin : MethodName := ⟨RX1, "begin", "(LFrameTalk$Node;I)V"⟩
abbrev cX1_isAtWork : ByteArray := prog_3_method_6_code
def yX1_isAtWork : MethodName := ⟨RX1, "isAtWork", "()Z"⟩
abbrev cX1_takeTurn : ByteArray := prog_3_method_7_code
def yX1_takeTurn : MethodName := ⟨RX1, "takeTurn", "()V"⟩
abbrev cX1_end : ByteArray := prog_3_method_8_code
def yX1_end : MethodName := ⟨RX1, "end", "()I"⟩
abbrev cX1_open : ByteArray := prog_3_method_9_code
def yX1_open : MethodName := ⟨RX1, "open", "(LFrameTalk$Node;)V"⟩
abbrev cX1_close : ByteArray := prog_3_method_10_code
def yX1_close : MethodName := ⟨RX1, "close", "(LFrameTalk$Frame;LFrameTalk$Thing;)V"⟩
abbrev cX1_workPart : ByteArray := prog_3_method_11_code
def yX1_workPart : MethodName := ⟨RX1, "workPart", "(LFrameTalk$Frame;I)V"⟩
abbrev cX1_nextPart : ByteArray := prog_3_method_12_code
def yX1_nextPart : MethodName := ⟨RX1, "nextPart", "(LFrameTalk$Frame;)I"⟩
abbrev cX1_nextInOrder : ByteArray := prog_3_method_13_code
def yX1_nextInOrder : MethodName := ⟨RX1, "nextInOrder", "(LFrameTalk$Frame;)I"⟩
abbrev cX1_nextOfIf : ByteArray := prog_3_method_14_code
def yX1_nextOfIf : MethodName := ⟨RX1, "nextOfIf", "(LFrameTalk$Frame;)I"⟩
abbrev cX1_nextOfTimes : ByteArray := prog_3_method_15_code
def yX1_nextOfTimes : MethodName := ⟨RX1, "nextOfTimes", "(LFrameTalk$Frame;)I"⟩
abbrev cX1_passFault : ByteArray := prog_3_method_16_code
def yX1_passFault : MethodName := ⟨RX1, "passFault", "(LFrameTalk$Frame;)V"⟩
abbrev cX1_takesFault : ByteArray := prog_3_method_17_code
def yX1_takesFault : MethodName := ⟨RX1, "takesFault", "(LFrameTalk$Frame;)Z"⟩
abbrev cX1_clearFault : ByteArray := prog_3_method_18_code
def yX1_clearFault : MethodName := ⟨RX1, "clearFault", "()V"⟩
abbrev cX1_failAt : ByteArray := prog_3_method_19_code
def yX1_failAt : MethodName := ⟨RX1, "failAt", "(II)LFrameTalk$Thing;"⟩
abbrev cX1_lacks : ByteArray := prog_3_method_20_code
def yX1_lacks : MethodName := ⟨RX1, "lacks", "(LFrameTalk$Frame;LFrameTalk$Thing;I)Z"⟩
abbrev cX1_finish : ByteArray := prog_3_method_21_code
def yX1_finish : MethodName := ⟨RX1, "finish", "(LFrameTalk$Frame;)LFrameTalk$Thing;"⟩
abbrev cX1_isSlot : ByteArray := prog_3_method_22_code
def yX1_isSlot : MethodName := ⟨RX1, "isSlot", "(I)Z"⟩
abbrev cX1_useSlot : ByteArray := prog_3_method_23_code
def yX1_useSlot : MethodName := ⟨RX1, "useSlot", "(LFrameTalk$Frame;)LFrameTalk$Thing;"⟩
abbrev cX1_field : ByteArray := prog_3_method_24_code
def yX1_field : MethodName := ⟨RX1, "field", "(LFrameTalk$Frame;)LFrameTalk$Thing;"⟩
abbrev cX1_store : ByteArray := prog_3_method_25_code
def yX1_store : MethodName := ⟨RX1, "store", "(LFrameTalk$Frame;)LFrameTalk$Thing;"⟩
abbrev cX1_side : ByteArray := prog_3_method_26_code
def yX1_side : MethodName := ⟨RX1, "side", "(LFrameTalk$Frame;)LFrameTalk$Thing;"⟩
abbrev cX1_send : ByteArray := prog_3_method_27_code
def yX1_send : MethodName := ⟨RX1, "send", "(LFrameTalk$Frame;)LFrameTalk$Thing;"⟩
abbrev cX1_reckon : ByteArray := prog_3_method_28_code
def yX1_reckon : MethodName := ⟨RX1, "reckon", "(LFrameTalk$Frame;ILFrameTalk$Thing;)LFrameTalk$Thing;"⟩
abbrev cX1_row : ByteArray := prog_3_method_29_code
def yX1_row : MethodName := ⟨RX1, "row", "(LFrameTalk$Frame;)LFrameTalk$Thing;"⟩
abbrev cX1_lacksPlace : ByteArray := prog_3_method_30_code
def yX1_lacksPlace : MethodName := ⟨RX1, "lacksPlace", "(LFrameTalk$Frame;)Z"⟩
abbrev cX1_put : ByteArray := prog_3_method_31_code
def yX1_put : MethodName := ⟨RX1, "put", "(LFrameTalk$Frame;)LFrameTalk$Thing;"⟩
abbrev cX1_at : ByteArray := prog_3_method_32_code
def yX1_at : MethodName := ⟨RX1, "at", "(LFrameTalk$Frame;)LFrameTalk$Thing;"⟩
abbrev cX1_size : ByteArray := prog_3_method_33_code
def yX1_size : MethodName := ⟨RX1, "size", "(LFrameTalk$Frame;)LFrameTalk$Thing;"⟩
abbrev cX1_hold : ByteArray := prog_3_method_34_code
def yX1_hold : MethodName := ⟨RX1, "hold", "(LFrameTalk$Frame;)LFrameTalk$Thing;"⟩
def RX2 : String := "FrameTalk$Maker"
def TX2 : u_T := fun k => match k with
  | 0 => ("FrameTalk$Maker", "made", "I", false)
  | _ => ("FrameTalk$Maker", "placesUsed", "I", false)
def tyX2 : Nat → FieldType := fun k => match k with
  | 0 => .int
  | _ => .int
abbrev wsX20 : List Cond := u_ws RX2 TX2 2
theorem nmX2 : ∀ a, a < 2 → ∀ b, b < 2 → a ≠ b → (TX2 a).2.1 ≠ (TX2 b).2.1 := by decide +kernel
theorem tyX2_ok : ∀ k, k < 2 → parseFieldDescriptor (TX2 k).2.2.1 = some (tyX2 k) := by decide +kernel
abbrev cX2_init : ByteArray := prog_4_method_1_code
def yX2_init : MethodName := ⟨RX2, "<init>", "()V"⟩
abbrev cX2_withValue : ByteArray := prog_4_method_2_code
def yX2_withValue : MethodName := ⟨RX2, "withValue", "(IJ)LFrameTalk$Thing;"⟩
abbrev cX2_withFields : ByteArray := prog_4_method_3_code
def yX2_withFields : MethodName := ⟨RX2, "withFields", "(ILFrameTalk$Thing;LFrameTalk$Thing;)LFrameTalk$Thing;"⟩
abbrev cX2_hasRoomFor : ByteArray := prog_4_method_4_code
def yX2_hasRoomFor : MethodName := ⟨RX2, "hasRoomFor", "(I)Z"⟩
abbrev cX2_row : ByteArray := prog_4_method_5_code
def yX2_row : MethodName := ⟨RX2, "row", "(II)LFrameTalk$Thing;"⟩
abbrev cX2_rowWithoutPlaces : ByteArray := prog_4_method_6_code
def yX2_rowWithoutPlaces : MethodName := ⟨RX2, "rowWithoutPlaces", "()LFrameTalk$Thing;"⟩
def RX3 : String := "FrameTalk$Node"
def TX3 : u_T := fun k => match k with
  | 0 => ("FrameTalk$Node", "number", "I", true)
  | 1 => ("FrameTalk$Node", "op", "I", true)
  | 2 => ("FrameTalk$Node", "literal", "J", true)
  | 3 => ("FrameTalk$Node", "a", "I", false)
  | 4 => ("FrameTalk$Node", "b", "I", false)
  | _ => ("FrameTalk$Node", "c", "I", false)
def tyX3 : Nat → FieldType := fun k => match k with
  | 0 => .int
  | 1 => .int
  | 2 => .long
  | 3 => .int
  | 4 => .int
  | _ => .int
abbrev wsX30 : List Cond := u_ws RX3 TX3 6
theorem nmX3 : ∀ a, a < 6 → ∀ b, b < 6 → a ≠ b → (TX3 a).2.1 ≠ (TX3 b).2.1 := by decide +kernel
theorem tyX3_ok : ∀ k, k < 6 → parseFieldDescriptor (TX3 k).2.2.1 = some (tyX3 k) := by decide +kernel
abbrev cX3_init : ByteArray := prog_5_method_1_code
def yX3_init : MethodName := ⟨RX3, "<init>", "(IIJ)V"⟩
abbrev cX3_get : ByteArray := prog_5_method_2_code
def yX3_get : MethodName := ⟨RX3, "get", "(I)I"⟩
abbrev cX3_set : ByteArray := prog_5_method_3_code
def yX3_set : MethodName := ⟨RX3, "set", "(II)V"⟩
abbrev cX3_works : ByteArray := prog_5_method_4_code
def yX3_works : MethodName := ⟨RX3, "works", "(I)Z"⟩
def RX4 : String := "FrameTalk$Program"
def TX4 : u_T := fun k => match k with
  | _ => ("FrameTalk$Program", "nodes", "Ljava/util/ArrayList;", true)
def tyX4 : Nat → FieldType := fun k => match k with
  | _ => .object "java/util/ArrayList"
abbrev wsX40 : List Cond := u_ws RX4 TX4 1
theorem nmX4 : ∀ a, a < 1 → ∀ b, b < 1 → a ≠ b → (TX4 a).2.1 ≠ (TX4 b).2.1 := by decide +kernel
theorem tyX4_ok : ∀ k, k < 1 → parseFieldDescriptor (TX4 k).2.2.1 = some (tyX4 k) := by decide +kernel
abbrev cX4_init : ByteArray := prog_6_method_1_code
def yX4_init : MethodName := ⟨RX4, "<init>", "()V"⟩
abbrev cX4_at : ByteArray := prog_6_method_2_code
def yX4_at : MethodName := ⟨RX4, "at", "(I)LFrameTalk$Node;"⟩
abbrev cX4_addLiteral : ByteArray := prog_6_method_3_code
def yX4_addLiteral : MethodName := ⟨RX4, "addLiteral", "(J)I"⟩
abbrev cX4_add : ByteArray := prog_6_method_4_code
def yX4_add : MethodName := ⟨RX4, "add", "(IIII)I"⟩
abbrev cX4_setPart : ByteArray := prog_6_method_5_code
def yX4_setPart : MethodName := ⟨RX4, "setPart", "(LFrameTalk$Node;II)V"⟩
abbrev cX4_clear : ByteArray := prog_6_method_6_code
def yX4_clear : MethodName := ⟨RX4, "clear", "()V"⟩
abbrev cX4_append : ByteArray := prog_6_method_7_code
def yX4_append : MethodName := ⟨RX4, "append", "(LFrameTalk$Node;)I"⟩
def RX5 : String := "FrameTalk$Thing"
def TX5 : u_T := fun k => match k with
  | 0 => ("FrameTalk$Thing", "number", "I", true)
  | 1 => ("FrameTalk$Thing", "kind", "I", true)
  | 2 => ("FrameTalk$Thing", "value", "J", false)
  | 3 => ("FrameTalk$Thing", "first", "LFrameTalk$Thing;", false)
  | 4 => ("FrameTalk$Thing", "second", "LFrameTalk$Thing;", false)
  | 5 => ("FrameTalk$Thing", "use", "I", false)
  | _ => ("FrameTalk$Thing", "places", "[LFrameTalk$Thing;", false)
def tyX5 : Nat → FieldType := fun k => match k with
  | 0 => .int
  | 1 => .int
  | 2 => .long
  | 3 => .object "FrameTalk$Thing"
  | 4 => .object "FrameTalk$Thing"
  | 5 => .int
  | _ => .array (.object "FrameTalk$Thing")
abbrev wsX50 : List Cond := u_ws RX5 TX5 7
theorem nmX5 : ∀ a, a < 7 → ∀ b, b < 7 → a ≠ b → (TX5 a).2.1 ≠ (TX5 b).2.1 := by decide +kernel
theorem tyX5_ok : ∀ k, k < 7 → parseFieldDescriptor (TX5 k).2.2.1 = some (tyX5 k) := by decide +kernel
abbrev cX5_init : ByteArray := prog_7_method_1_code
def yX5_init : MethodName := ⟨RX5, "<init>", "(II)V"⟩
abbrev cX5_isA : ByteArray := prog_7_method_2_code
def yX5_isA : MethodName := ⟨RX5, "isA", "(I)Z"⟩
abbrev cX5_hasValue : ByteArray := prog_7_method_3_code
def yX5_hasValue : MethodName := ⟨RX5, "hasValue", "()Z"⟩
abbrev cX5_hasPlace : ByteArray := prog_7_method_4_code
def yX5_hasPlace : MethodName := ⟨RX5, "hasPlace", "(I)Z"⟩
abbrev cX5_isRowFor : ByteArray := prog_7_method_5_code
def yX5_isRowFor : MethodName := ⟨RX5, "isRowFor", "(LFrameTalk$Thing;)Z"⟩
abbrev cX5_tell : ByteArray := prog_7_method_6_code
def yX5_tell : MethodName := ⟨RX5, "tell", "(I)I"⟩
abbrev cX5_placesOrNone : ByteArray := prog_7_method_7_code
def yX5_placesOrNone : MethodName := ⟨RX5, "placesOrNone", "()I"⟩
abbrev cX5_useOrNone : ByteArray := prog_7_method_8_code
def yX5_useOrNone : MethodName := ⟨RX5, "useOrNone", "()I"⟩
abbrev cX5_numberOf : ByteArray := prog_7_method_9_code
def yX5_numberOf : MethodName := ⟨RX5, "numberOf", "(LFrameTalk$Thing;)I"⟩
def RX6 : String := "FrameTalk"
def TX6 : u_T := fun k => match k with
  | 0 => ("FrameTalk", "program", "LFrameTalk$Program;", true)
  | _ => ("FrameTalk", "machine", "LFrameTalk$Machine;", true)
def tyX6 : Nat → FieldType := fun k => match k with
  | 0 => .object "FrameTalk$Program"
  | _ => .object "FrameTalk$Machine"
abbrev wsX60 : List Cond := u_ws RX6 TX6 2
theorem nmX6 : ∀ a, a < 2 → ∀ b, b < 2 → a ≠ b → (TX6 a).2.1 ≠ (TX6 b).2.1 := by decide +kernel
theorem tyX6_ok : ∀ k, k < 2 → parseFieldDescriptor (TX6 k).2.2.1 = some (tyX6 k) := by decide +kernel
abbrev cX6_init : ByteArray := prog_1_method_1_code
def yX6_init : MethodName := ⟨RX6, "<init>", "()V"⟩
abbrev cX6_lit : ByteArray := prog_1_method_2_code
def yX6_lit : MethodName := ⟨RX6, "lit", "(J)I"⟩
abbrev cX6_node : ByteArray := prog_1_method_3_code
def yX6_node : MethodName := ⟨RX6, "node", "(IIII)I"⟩
abbrev cX6_part : ByteArray := prog_1_method_4_code
def yX6_part : MethodName := ⟨RX6, "part", "(III)I"⟩
abbrev cX6_run : ByteArray := prog_1_method_5_code
def yX6_run : MethodName := ⟨RX6, "run", "(II)I"⟩
abbrev cX6_value : ByteArray := prog_1_method_6_code
def yX6_value : MethodName := ⟨RX6, "value", "(I)J"⟩
abbrev cX6_thing : ByteArray := prog_1_method_7_code
def yX6_thing : MethodName := ⟨RX6, "thing", "(II)I"⟩
abbrev cX6_fault : ByteArray := prog_1_method_8_code
def yX6_fault : MethodName := ⟨RX6, "fault", "()I"⟩
abbrev cX6_faultNode : ByteArray := prog_1_method_9_code
def yX6_faultNode : MethodName := ⟨RX6, "faultNode", "()I"⟩
abbrev cX6_steps : ByteArray := prog_1_method_10_code
def yX6_steps : MethodName := ⟨RX6, "steps", "()I"⟩
abbrev cX6_wipe : ByteArray := prog_1_method_11_code
def yX6_wipe : MethodName := ⟨RX6, "wipe", "()V"⟩
def RX7 : String := "FrameTalkModel"
def TX7 : u_T := fun k => match k with
  | 0 => ("FrameTalkModel", "named", "[I", true)
  | 1 => ("FrameTalkModel", "op", "[I", true)
  | 2 => ("FrameTalkModel", "parts", "[I", true)
  | 3 => ("FrameTalkModel", "literal", "[J", true)
  | 4 => ("FrameTalkModel", "nodes", "I", false)
  | 5 => ("FrameTalkModel", "kind", "[I", true)
  | 6 => ("FrameTalkModel", "one", "[I", true)
  | 7 => ("FrameTalkModel", "two", "[I", true)
  | 8 => ("FrameTalkModel", "value", "[J", true)
  | 9 => ("FrameTalkModel", "things", "I", false)
  | 10 => ("FrameTalkModel", "places", "[I", true)
  | 11 => ("FrameTalkModel", "placed", "I", false)
  | 12 => ("FrameTalkModel", "slots", "[I", true)
  | 13 => ("FrameTalkModel", "held", "I", false)
  | 14 => ("FrameTalkModel", "workNode", "[I", true)
  | 15 => ("FrameTalkModel", "phase", "[I", true)
  | 16 => ("FrameTalkModel", "gave", "[I", true)
  | 17 => ("FrameTalkModel", "times", "[J", true)
  | 18 => ("FrameTalkModel", "depth", "I", false)
  | 19 => ("FrameTalkModel", "got", "I", false)
  | 20 => ("FrameTalkModel", "out", "I", false)
  | 21 => ("FrameTalkModel", "outNode", "I", false)
  | 22 => ("FrameTalkModel", "left", "I", false)
  | 23 => ("FrameTalkModel", "taken", "I", false)
  | 24 => ("FrameTalkModel", "spent", "I", false)
  | 25 => ("FrameTalkModel", "given", "I", false)
  | 26 => ("FrameTalkModel", "fault", "I", false)
  | _ => ("FrameTalkModel", "faultNode", "I", false)
def tyX7 : Nat → FieldType := fun k => match k with
  | 0 => .array .int
  | 1 => .array .int
  | 2 => .array .int
  | 3 => .array .long
  | 4 => .int
  | 5 => .array .int
  | 6 => .array .int
  | 7 => .array .int
  | 8 => .array .long
  | 9 => .int
  | 10 => .array .int
  | 11 => .int
  | 12 => .array .int
  | 13 => .int
  | 14 => .array .int
  | 15 => .array .int
  | 16 => .array .int
  | 17 => .array .long
  | 18 => .int
  | 19 => .int
  | 20 => .int
  | 21 => .int
  | 22 => .int
  | 23 => .int
  | 24 => .int
  | 25 => .int
  | 26 => .int
  | _ => .int
abbrev wsX70 : List Cond := u_ws RX7 TX7 28
theorem nmX7 : ∀ a, a < 28 → ∀ b, b < 28 → a ≠ b → (TX7 a).2.1 ≠ (TX7 b).2.1 := by decide +kernel
theorem tyX7_ok : ∀ k, k < 28 → parseFieldDescriptor (TX7 k).2.2.1 = some (tyX7 k) := by decide +kernel
abbrev cX7_init : ByteArray := prog_9_method_1_code
def yX7_init : MethodName := ⟨RX7, "<init>", "()V"⟩
abbrev cX7_lit : ByteArray := prog_9_method_2_code
def yX7_lit : MethodName := ⟨RX7, "lit", "(J)I"⟩
abbrev cX7_isNode : ByteArray := prog_9_method_3_code
def yX7_isNode : MethodName := ⟨RX7, "isNode", "(II)Z"⟩
abbrev cX7_join : ByteArray := prog_9_method_4_code
def yX7_join : MethodName := ⟨RX7, "join", "(III)V"⟩
abbrev cX7_node : ByteArray := prog_9_method_5_code
def yX7_node : MethodName := ⟨RX7, "node", "(IIII)I"⟩
abbrev cX7_part : ByteArray := prog_9_method_6_code
def yX7_part : MethodName := ⟨RX7, "part", "(III)I"⟩
abbrev cX7_number : ByteArray := prog_9_method_7_code
def yX7_number : MethodName := ⟨RX7, "number", "(II)I"⟩
abbrev cX7_make : ByteArray := prog_9_method_8_code
def yX7_make : MethodName := ⟨RX7, "make", "(IJII)I"⟩
abbrev cX7_num : ByteArray := prog_9_method_9_code
def yX7_num : MethodName := ⟨RX7, "num", "(J)I"⟩
abbrev cX7_fail : ByteArray := prog_9_method_10_code
def yX7_fail : MethodName := ⟨RX7, "fail", "(II)I"⟩
abbrev cX7_is : ByteArray := prog_9_method_11_code
def yX7_is : MethodName := ⟨RX7, "is", "(III)Z"⟩
abbrev cX7_enter : ByteArray := prog_9_method_12_code
def yX7_enter : MethodName := ⟨RX7, "enter", "(I)V"⟩
abbrev cX7_begin : ByteArray := prog_9_method_13_code
def yX7_begin : MethodName := ⟨RX7, "begin", "(II)V"⟩
abbrev cX7_run : ByteArray := prog_9_method_14_code
def yX7_run : MethodName := ⟨RX7, "run", "(II)I"⟩
abbrev cX7_outward : ByteArray := prog_9_method_15_code
def yX7_outward : MethodName := ⟨RX7, "outward", "(I)V"⟩
abbrev cX7_forward : ByteArray := prog_9_method_16_code
def yX7_forward : MethodName := ⟨RX7, "forward", "(I)V"⟩
abbrev cX7_part0 : ByteArray := prog_9_method_17_code
def yX7_part0 : MethodName := ⟨RX7, "part0", "(I)V"⟩
abbrev cX7_choose : ByteArray := prog_9_method_18_code
def yX7_choose : MethodName := ⟨RX7, "choose", "(I)V"⟩
abbrev cX7_again : ByteArray := prog_9_method_19_code
def yX7_again : MethodName := ⟨RX7, "again", "(I)V"⟩
abbrev cX7_eager : ByteArray := prog_9_method_20_code
def yX7_eager : MethodName := ⟨RX7, "eager", "(I)V"⟩
abbrev cX7_act : ByteArray := prog_9_method_21_code
def yX7_act : MethodName := ⟨RX7, "act", "(IIII)I"⟩
abbrev cX7_noSlot : ByteArray := prog_9_method_22_code
def yX7_noSlot : MethodName := ⟨RX7, "noSlot", "(II)Z"⟩
abbrev cX7_simple : ByteArray := prog_9_method_23_code
def yX7_simple : MethodName := ⟨RX7, "simple", "(IIII)I"⟩
abbrev cX7_send : ByteArray := prog_9_method_24_code
def yX7_send : MethodName := ⟨RX7, "send", "(III)I"⟩
abbrev cX7_reckon : ByteArray := prog_9_method_25_code
def yX7_reckon : MethodName := ⟨RX7, "reckon", "(IIJJ)I"⟩
abbrev cX7_larger : ByteArray := prog_9_method_26_code
def yX7_larger : MethodName := ⟨RX7, "larger", "(IIII)I"⟩
abbrev cX7_newRow : ByteArray := prog_9_method_27_code
def yX7_newRow : MethodName := ⟨RX7, "newRow", "(II)I"⟩
abbrev cX7_inRow : ByteArray := prog_9_method_28_code
def yX7_inRow : MethodName := ⟨RX7, "inRow", "(IIII)I"⟩
abbrev cX7_thingAt : ByteArray := prog_9_method_29_code
def yX7_thingAt : MethodName := ⟨RX7, "thingAt", "(I)I"⟩
abbrev cX7_value : ByteArray := prog_9_method_30_code
def yX7_value : MethodName := ⟨RX7, "value", "(I)J"⟩
abbrev cX7_thing : ByteArray := prog_9_method_31_code
def yX7_thing : MethodName := ⟨RX7, "thing", "(II)I"⟩
abbrev cX7_fault : ByteArray := prog_9_method_32_code
def yX7_fault : MethodName := ⟨RX7, "fault", "()I"⟩
abbrev cX7_faultNode : ByteArray := prog_9_method_33_code
def yX7_faultNode : MethodName := ⟨RX7, "faultNode", "()I"⟩
abbrev cX7_steps : ByteArray := prog_9_method_34_code
def yX7_steps : MethodName := ⟨RX7, "steps", "()I"⟩
abbrev cX7_wipe : ByteArray := prog_9_method_35_code
def yX7_wipe : MethodName := ⟨RX7, "wipe", "()V"⟩
def RJx145de : String := "java/io/Serializable"
def TJx145de : u_T := fun k => match k with
  | _ => ("", "", "", false)
def tyJx145de : Nat → FieldType := fun k => match k with
  | _ => .int
abbrev wsJx145de0 : List Cond := u_ws RJx145de TJx145de 0
theorem nmJx145de : ∀ a, a < 0 → ∀ b, b < 0 → a ≠ b → (TJx145de a).2.1 ≠ (TJx145de b).2.1 := by decide +kernel
theorem tyJx145de_ok : ∀ k, k < 0 → parseFieldDescriptor (TJx145de k).2.2.1 = some (tyJx145de k) := by decide +kernel
def RJx8e188 : String := "java/lang/Cloneable"
def TJx8e188 : u_T := fun k => match k with
  | _ => ("", "", "", false)
def tyJx8e188 : Nat → FieldType := fun k => match k with
  | _ => .int
abbrev wsJx8e1880 : List Cond := u_ws RJx8e188 TJx8e188 0
theorem nmJx8e188 : ∀ a, a < 0 → ∀ b, b < 0 → a ≠ b → (TJx8e188 a).2.1 ≠ (TJx8e188 b).2.1 := by decide +kernel
theorem tyJx8e188_ok : ∀ k, k < 0 → parseFieldDescriptor (TJx8e188 k).2.2.1 = some (tyJx8e188 k) := by decide +kernel
def RJxab1ab : String := "java/lang/Iterable"
def TJxab1ab : u_T := fun k => match k with
  | _ => ("", "", "", false)
def tyJxab1ab : Nat → FieldType := fun k => match k with
  | _ => .int
abbrev wsJxab1ab0 : List Cond := u_ws RJxab1ab TJxab1ab 0
theorem nmJxab1ab : ∀ a, a < 0 → ∀ b, b < 0 → a ≠ b → (TJxab1ab a).2.1 ≠ (TJxab1ab b).2.1 := by decide +kernel
theorem tyJxab1ab_ok : ∀ k, k < 0 → parseFieldDescriptor (TJxab1ab k).2.2.1 = some (tyJxab1ab k) := by decide +kernel
def RJ9 : String := "java/lang/Math"
def TJ9 : u_T := fun k => match k with
  | _ => ("", "", "", false)
def tyJ9 : Nat → FieldType := fun k => match k with
  | _ => .int
abbrev wsJ90 : List Cond := u_ws RJ9 TJ9 0
theorem nmJ9 : ∀ a, a < 0 → ∀ b, b < 0 → a ≠ b → (TJ9 a).2.1 ≠ (TJ9 b).2.1 := by decide +kernel
theorem tyJ9_ok : ∀ k, k < 0 → parseFieldDescriptor (TJ9 k).2.2.1 = some (tyJ9 k) := by decide +kernel
abbrev cJ9_max_7cf53 : ByteArray := prog_13_method_65_code
def yJ9_max_7cf53 : MethodName := ⟨RJ9, "max", "(II)I"⟩
abbrev cJ9_min_7cf53 : ByteArray := prog_13_method_69_code
def yJ9_min_7cf53 : MethodName := ⟨RJ9, "min", "(II)I"⟩
def RJ10 : String := "java/lang/System"
def TJ10 : u_T := fun k => match k with
  | _ => ("", "", "", false)
def tyJ10 : Nat → FieldType := fun k => match k with
  | _ => .int
abbrev wsJ100 : List Cond := u_ws RJ10 TJ10 0
theorem nmJ10 : ∀ a, a < 0 → ∀ b, b < 0 → a ≠ b → (TJ10 a).2.1 ≠ (TJ10 b).2.1 := by decide +kernel
theorem tyJ10_ok : ∀ k, k < 0 → parseFieldDescriptor (TJ10 k).2.2.1 = some (tyJ10 k) := by decide +kernel
def RJxa1e45 : String := "java/util/AbstractCollection"
def TJxa1e45 : u_T := fun k => match k with
  | _ => ("", "", "", false)
def tyJxa1e45 : Nat → FieldType := fun k => match k with
  | _ => .int
abbrev wsJxa1e450 : List Cond := u_ws RJxa1e45 TJxa1e45 0
theorem nmJxa1e45 : ∀ a, a < 0 → ∀ b, b < 0 → a ≠ b → (TJxa1e45 a).2.1 ≠ (TJxa1e45 b).2.1 := by decide +kernel
theorem tyJxa1e45_ok : ∀ k, k < 0 → parseFieldDescriptor (TJxa1e45 k).2.2.1 = some (tyJxa1e45 k) := by decide +kernel
abbrev cJxa1e45_init_da8c8 : ByteArray := prog_15_method_1_code
def yJxa1e45_init_da8c8 : MethodName := ⟨RJxa1e45, "<init>", "()V"⟩
def RJxc12de : String := "java/util/AbstractList"
def TJxc12de : u_T := fun k => match k with
  | _ => ("", "", "", false)
def tyJxc12de : Nat → FieldType := fun k => match k with
  | _ => .int
abbrev wsJxc12de0 : List Cond := u_ws RJxc12de TJxc12de 0
theorem nmJxc12de : ∀ a, a < 0 → ∀ b, b < 0 → a ≠ b → (TJxc12de a).2.1 ≠ (TJxc12de b).2.1 := by decide +kernel
theorem tyJxc12de_ok : ∀ k, k < 0 → parseFieldDescriptor (TJxc12de k).2.2.1 = some (tyJxc12de k) := by decide +kernel
abbrev cJxc12de_init_da8c8 : ByteArray := prog_16_method_1_code
def yJxc12de_init_da8c8 : MethodName := ⟨RJxc12de, "<init>", "()V"⟩
def RJx4a65c : String := "java/util/ArrayList"
def TJx4a65c : u_T := fun k => match k with
  | 0 => ("java/util/AbstractList", "modCount", "I", false)
  | 1 => ("java/util/ArrayList", "elementData", "[Ljava/lang/Object;", false)
  | _ => ("java/util/ArrayList", "size", "I", false)
def tyJx4a65c : Nat → FieldType := fun k => match k with
  | 0 => .int
  | 1 => .array (.object "java/lang/Object")
  | _ => .int
abbrev wsJx4a65c0 : List Cond := u_ws RJx4a65c TJx4a65c 3
theorem nmJx4a65c : ∀ a, a < 3 → ∀ b, b < 3 → a ≠ b → (TJx4a65c a).2.1 ≠ (TJx4a65c b).2.1 := by decide +kernel
theorem tyJx4a65c_ok : ∀ k, k < 3 → parseFieldDescriptor (TJx4a65c k).2.2.1 = some (tyJx4a65c k) := by decide +kernel
abbrev cJx4a65c_init_da8c8 : ByteArray := prog_17_method_2_code
def yJx4a65c_init_da8c8 : MethodName := ⟨RJx4a65c, "<init>", "()V"⟩
abbrev cJx4a65c_grow_92f84 : ByteArray := prog_17_method_6_code
def yJx4a65c_grow_92f84 : MethodName := ⟨RJx4a65c, "grow", "(I)[Ljava/lang/Object;"⟩
abbrev cJx4a65c_grow_d5877 : ByteArray := prog_17_method_7_code
def yJx4a65c_grow_d5877 : MethodName := ⟨RJx4a65c, "grow", "()[Ljava/lang/Object;"⟩
abbrev cJx4a65c_size_8abf5 : ByteArray := prog_17_method_8_code
def yJx4a65c_size_8abf5 : MethodName := ⟨RJx4a65c, "size", "()I"⟩
abbrev cJx4a65c_elementData_915e3 : ByteArray := prog_17_method_18_code
def yJx4a65c_elementData_915e3 : MethodName := ⟨RJx4a65c, "elementData", "(I)Ljava/lang/Object;"⟩
abbrev cJx4a65c_get_915e3 : ByteArray := prog_17_method_20_code
def yJx4a65c_get_915e3 : MethodName := ⟨RJx4a65c, "get", "(I)Ljava/lang/Object;"⟩
abbrev cJx4a65c_add_72be8 : ByteArray := prog_17_method_24_code
def yJx4a65c_add_72be8 : MethodName := ⟨RJx4a65c, "add", "(Ljava/lang/Object;[Ljava/lang/Object;I)V"⟩
abbrev cJx4a65c_add_9ea2d : ByteArray := prog_17_method_25_code
def yJx4a65c_add_9ea2d : MethodName := ⟨RJx4a65c, "add", "(Ljava/lang/Object;)Z"⟩
abbrev cJx4a65c_clear_da8c8 : ByteArray := prog_17_method_40_code
def yJx4a65c_clear_da8c8 : MethodName := ⟨RJx4a65c, "clear", "()V"⟩
def RJ7 : String := "java/util/Arrays"
def TJ7 : u_T := fun k => match k with
  | _ => ("", "", "", false)
def tyJ7 : Nat → FieldType := fun k => match k with
  | _ => .int
abbrev wsJ70 : List Cond := u_ws RJ7 TJ7 0
theorem nmJ7 : ∀ a, a < 0 → ∀ b, b < 0 → a ≠ b → (TJ7 a).2.1 ≠ (TJ7 b).2.1 := by decide +kernel
theorem tyJ7_ok : ∀ k, k < 0 → parseFieldDescriptor (TJ7 k).2.2.1 = some (tyJ7 k) := by decide +kernel
abbrev cJ7_copyOf_1904c : ByteArray := prog_18_method_119_code
def yJ7_copyOf_1904c : MethodName := ⟨RJ7, "copyOf", "([Ljava/lang/Object;I)[Ljava/lang/Object;"⟩
abbrev cJ7_copyOf_6403c : ByteArray := prog_18_method_120_code
def yJ7_copyOf_6403c : MethodName := ⟨RJ7, "copyOf", "([Ljava/lang/Object;ILjava/lang/Class;)[Ljava/lang/Object;"⟩
def RJx5ef63 : String := "java/util/Collection"
def TJx5ef63 : u_T := fun k => match k with
  | _ => ("", "", "", false)
def tyJx5ef63 : Nat → FieldType := fun k => match k with
  | _ => .int
abbrev wsJx5ef630 : List Cond := u_ws RJx5ef63 TJx5ef63 0
theorem nmJx5ef63 : ∀ a, a < 0 → ∀ b, b < 0 → a ≠ b → (TJx5ef63 a).2.1 ≠ (TJx5ef63 b).2.1 := by decide +kernel
theorem tyJx5ef63_ok : ∀ k, k < 0 → parseFieldDescriptor (TJx5ef63 k).2.2.1 = some (tyJx5ef63 k) := by decide +kernel
def RJxbd725 : String := "java/util/List"
def TJxbd725 : u_T := fun k => match k with
  | _ => ("", "", "", false)
def tyJxbd725 : Nat → FieldType := fun k => match k with
  | _ => .int
abbrev wsJxbd7250 : List Cond := u_ws RJxbd725 TJxbd725 0
theorem nmJxbd725 : ∀ a, a < 0 → ∀ b, b < 0 → a ≠ b → (TJxbd725 a).2.1 ≠ (TJxbd725 b).2.1 := by decide +kernel
theorem tyJxbd725_ok : ∀ k, k < 0 → parseFieldDescriptor (TJxbd725 k).2.2.1 = some (tyJxbd725 k) := by decide +kernel
def RJ15 : String := "java/util/Objects"
def TJ15 : u_T := fun k => match k with
  | _ => ("", "", "", false)
def tyJ15 : Nat → FieldType := fun k => match k with
  | _ => .int
abbrev wsJ150 : List Cond := u_ws RJ15 TJ15 0
theorem nmJ15 : ∀ a, a < 0 → ∀ b, b < 0 → a ≠ b → (TJ15 a).2.1 ≠ (TJ15 b).2.1 := by decide +kernel
theorem tyJ15_ok : ∀ k, k < 0 → parseFieldDescriptor (TJ15 k).2.2.1 = some (tyJ15 k) := by decide +kernel
abbrev cJ15_checkIndex_7cf53 : ByteArray := prog_21_method_17_code
def yJ15_checkIndex_7cf53 : MethodName := ⟨RJ15, "checkIndex", "(II)I"⟩
def RJxf0a74 : String := "java/util/RandomAccess"
def TJxf0a74 : u_T := fun k => match k with
  | _ => ("", "", "", false)
def tyJxf0a74 : Nat → FieldType := fun k => match k with
  | _ => .int
abbrev wsJxf0a740 : List Cond := u_ws RJxf0a74 TJxf0a74 0
theorem nmJxf0a74 : ∀ a, a < 0 → ∀ b, b < 0 → a ≠ b → (TJxf0a74 a).2.1 ≠ (TJxf0a74 b).2.1 := by decide +kernel
theorem tyJxf0a74_ok : ∀ k, k < 0 → parseFieldDescriptor (TJxf0a74 k).2.2.1 = some (tyJxf0a74 k) := by decide +kernel
def RJxa66e6 : String := "java/util/SequencedCollection"
def TJxa66e6 : u_T := fun k => match k with
  | _ => ("", "", "", false)
def tyJxa66e6 : Nat → FieldType := fun k => match k with
  | _ => .int
abbrev wsJxa66e60 : List Cond := u_ws RJxa66e6 TJxa66e6 0
theorem nmJxa66e6 : ∀ a, a < 0 → ∀ b, b < 0 → a ≠ b → (TJxa66e6 a).2.1 ≠ (TJxa66e6 b).2.1 := by decide +kernel
theorem tyJxa66e6_ok : ∀ k, k < 0 → parseFieldDescriptor (TJxa66e6 k).2.2.1 = some (tyJxa66e6 k) := by decide +kernel
def RJ8 : String := "jdk/internal/util/ArraysSupport"
def TJ8 : u_T := fun k => match k with
  | _ => ("", "", "", false)
def tyJ8 : Nat → FieldType := fun k => match k with
  | _ => .int
abbrev wsJ80 : List Cond := u_ws RJ8 TJ8 0
theorem nmJ8 : ∀ a, a < 0 → ∀ b, b < 0 → a ≠ b → (TJ8 a).2.1 ≠ (TJ8 b).2.1 := by decide +kernel
theorem tyJ8_ok : ∀ k, k < 0 → parseFieldDescriptor (TJ8 k).2.2.1 = some (tyJ8 k) := by decide +kernel
abbrev cJ8_newLength_cabcc : ByteArray := prog_24_method_27_code
def yJ8_newLength_cabcc : MethodName := ⟨RJ8, "newLength", "(III)I"⟩
abbrev cJ8_hugeLength_7cf53 : ByteArray := prog_24_method_28_code
def yJ8_hugeLength_7cf53 : MethodName := ⟨RJ8, "hugeLength", "(II)I"⟩
def RJ3 : String := "jdk/internal/util/Preconditions"
def TJ3 : u_T := fun k => match k with
  | _ => ("", "", "", false)
def tyJ3 : Nat → FieldType := fun k => match k with
  | _ => .int
abbrev wsJ30 : List Cond := u_ws RJ3 TJ3 0
theorem nmJ3 : ∀ a, a < 0 → ∀ b, b < 0 → a ≠ b → (TJ3 a).2.1 ≠ (TJ3 b).2.1 := by decide +kernel
theorem tyJ3_ok : ∀ k, k < 0 → parseFieldDescriptor (TJ3 k).2.2.1 = some (tyJ3 k) := by decide +kernel
abbrev cJ3_checkIndex_8e157 : ByteArray := prog_25_method_11_code
def yJ3_checkIndex_8e157 : MethodName := ⟨RJ3, "checkIndex", "(IILjava/util/function/BiFunction;)I"⟩
def RL : String := "FrameTalkLaw"
abbrev cL_law : ByteArray := code
def yL_law : MethodName := ⟨RL, "law", "([I)Z"⟩
abbrev vwCl : List vw_C := [(RJx4a65c, TJx4a65c, 3), (RX0, TX0, 10), (RX1, TX1, 13), (RX2, TX2, 2), (RX3, TX3, 6), (RX4, TX4, 1), (RX5, TX5, 7), (RX6, TX6, 2), (RX7, TX7, 28)]
/-- the words that every contract takes: the tables' good ones -/
def wsL_law : List Cond := lw_tbl.filter goodWord
theorem gdL : wsL_law.all goodWord = true := List.all_eq_true.mpr (fun w h => (List.mem_filter.mp h).2)
theorem tbp {w : Cond} (i : Nat) (h : (k2_sels lw_privs)[i]? = some w) (g : goodWord w = true) : w ∈ wsL_law := List.mem_filter.mpr ⟨List.mem_append_left _ (List.mem_of_getElem? h), g⟩
theorem tb1 {w : Cond} (i : Nat) (h : tables_1_1[i]? = some w) (g : goodWord w = true) : w ∈ wsL_law := List.mem_filter.mpr ⟨List.mem_append_right _ (List.mem_append_left _ (List.mem_of_getElem? h)), g⟩
theorem tb2 {w : Cond} (i : Nat) (h : tables_1_2[i]? = some w) (g : goodWord w = true) : w ∈ wsL_law := List.mem_filter.mpr ⟨List.mem_append_right _ (List.mem_append_right _ (List.mem_append_left _ (List.mem_of_getElem? h))), g⟩
theorem tb3 {w : Cond} (i : Nat) (h : tables_1_3[i]? = some w) (g : goodWord w = true) : w ∈ wsL_law := List.mem_filter.mpr ⟨List.mem_append_right _ (List.mem_append_right _ (List.mem_append_right _ (List.mem_append_left _ (List.mem_of_getElem? h)))), g⟩
theorem tb4 {w : Cond} (i : Nat) (h : tables_1_4[i]? = some w) (g : goodWord w = true) : w ∈ wsL_law := List.mem_filter.mpr ⟨List.mem_append_right _ (List.mem_append_right _ (List.mem_append_right _ (List.mem_append_right _ (List.mem_of_getElem? h)))), g⟩
end
section
/-! ABSTRACT HEAPS: size; class of a cell (0: none; 1.. : vwCl's place + 1; 10 int[], 11 long[], 12 Thing[], 13 Object[], 14 the empty Object[] that is never written); int, long, reference fields by (field, address); lengths; elements of int, long, reference arrays by (address, index) -/
abbrev Sg : Type := Nat × (Nat → Nat) × (Nat → Nat → Int32) × (Nat → Nat → Int64) × (Nat → Nat → Option Nat) × (Nat → Nat) × (Nat → Nat → Int32) × (Nat → Nat → Int64) × (Nat → Nat → Option Nat)
def hs (σ : Sg) : Nat := σ.1
def gc (σ : Sg) : Nat → Nat := σ.2.1
def gi (σ : Sg) : Nat → Nat → Int32 := σ.2.2.1
def gj (σ : Sg) : Nat → Nat → Int64 := σ.2.2.2.1
def gp (σ : Sg) : Nat → Nat → Option Nat := σ.2.2.2.2.1
def gl (σ : Sg) : Nat → Nat := σ.2.2.2.2.2.1
def ai (σ : Sg) : Nat → Nat → Int32 := σ.2.2.2.2.2.2.1
def aj (σ : Sg) : Nat → Nat → Int64 := σ.2.2.2.2.2.2.2.1
def ap (σ : Sg) : Nat → Nat → Option Nat := σ.2.2.2.2.2.2.2.2
def u2 {α : Type} (f : Nat → Nat → α) (i a : Nat) (v : α) : Nat → Nat → α := fun j b => if j = i ∧ b = a then v else f j b
def u1 {α : Type} (f : Nat → α) (a : Nat) (v : α) : Nat → α := fun b => if b = a then v else f b
def uc {α : Type} (f : Nat → Nat → α) (a : Nat) (v : α) : Nat → Nat → α := fun j b => if b = a then v else f j b
def si (σ : Sg) (f a : Nat) (v : Int32) : Sg := (hs σ, gc σ, u2 (gi σ) f a v, gj σ, gp σ, gl σ, ai σ, aj σ, ap σ)
def sj (σ : Sg) (f a : Nat) (v : Int64) : Sg := (hs σ, gc σ, gi σ, u2 (gj σ) f a v, gp σ, gl σ, ai σ, aj σ, ap σ)
def sp (σ : Sg) (f a : Nat) (v : Option Nat) : Sg := (hs σ, gc σ, gi σ, gj σ, u2 (gp σ) f a v, gl σ, ai σ, aj σ, ap σ)
def wi (σ : Sg) (a i : Nat) (v : Int32) : Sg := (hs σ, gc σ, gi σ, gj σ, gp σ, gl σ, u2 (ai σ) a i v, aj σ, ap σ)
def wj (σ : Sg) (a i : Nat) (v : Int64) : Sg := (hs σ, gc σ, gi σ, gj σ, gp σ, gl σ, ai σ, u2 (aj σ) a i v, ap σ)
def wp (σ : Sg) (a i : Nat) (v : Option Nat) : Sg := (hs σ, gc σ, gi σ, gj σ, gp σ, gl σ, ai σ, aj σ, u2 (ap σ) a i v)
/-- a row of references gets another's contents -/
def wr (σ : Sg) (a : Nat) (f : Nat → Option Nat) : Sg := (hs σ, gc σ, gi σ, gj σ, gp σ, gl σ, ai σ, aj σ, u1 (ap σ) a f)
/-- a new object of class cls, at the heap's end -/
def nw (σ : Sg) (cls : Nat) : Sg := (hs σ + 1, u1 (gc σ) (hs σ) cls, uc (gi σ) (hs σ) 0, uc (gj σ) (hs σ) 0, uc (gp σ) (hs σ) none, gl σ, ai σ, aj σ, ap σ)
/-- a new array of class cls and length N, at the heap's end -/
def na (σ : Sg) (cls N : Nat) : Sg := (hs σ + 1, u1 (gc σ) (hs σ) cls, gi σ, gj σ, gp σ, u1 (gl σ) (hs σ) N, u1 (ai σ) (hs σ) (fun _ => 0), u1 (aj σ) (hs σ) (fun _ => 0), u1 (ap σ) (hs σ) (fun _ => none))

/-- an object's fields -/
def fl (ci : Nat) (σ : Sg) (a : Nat) : List Value := match ci with
  | 0 => [.int (gi σ 0 a), va_rf (gp σ 1 a), .int (gi σ 2 a)]
  | 1 => [va_rf (gp σ 100 a), .int (gi σ 101 a), va_rf (gp σ 102 a), va_rf (gp σ 103 a), .int (gi σ 104 a), va_rf (gp σ 105 a), va_rf (gp σ 106 a), va_rf (gp σ 107 a), va_rf (gp σ 108 a), .long (gj σ 109 a)]
  | 2 => [va_rf (gp σ 200 a), va_rf (gp σ 201 a), va_rf (gp σ 202 a), va_rf (gp σ 203 a), va_rf (gp σ 204 a), va_rf (gp σ 205 a), va_rf (gp σ 206 a), .int (gi σ 207 a), .int (gi σ 208 a), .int (gi σ 209 a), .int (gi σ 210 a), .int (gi σ 211 a), .int (gi σ 212 a)]
  | 3 => [.int (gi σ 300 a), .int (gi σ 301 a)]
  | 4 => [.int (gi σ 400 a), .int (gi σ 401 a), .long (gj σ 402 a), .int (gi σ 403 a), .int (gi σ 404 a), .int (gi σ 405 a)]
  | 5 => [va_rf (gp σ 500 a)]
  | 6 => [.int (gi σ 600 a), .int (gi σ 601 a), .long (gj σ 602 a), va_rf (gp σ 603 a), va_rf (gp σ 604 a), .int (gi σ 605 a), va_rf (gp σ 606 a)]
  | 7 => [va_rf (gp σ 700 a), va_rf (gp σ 701 a)]
  | 8 => [va_rf (gp σ 800 a), va_rf (gp σ 801 a), va_rf (gp σ 802 a), va_rf (gp σ 803 a), .int (gi σ 804 a), va_rf (gp σ 805 a), va_rf (gp σ 806 a), va_rf (gp σ 807 a), va_rf (gp σ 808 a), .int (gi σ 809 a), va_rf (gp σ 810 a), .int (gi σ 811 a), va_rf (gp σ 812 a), .int (gi σ 813 a), va_rf (gp σ 814 a), va_rf (gp σ 815 a), va_rf (gp σ 816 a), va_rf (gp σ 817 a), .int (gi σ 818 a), .int (gi σ 819 a), .int (gi σ 820 a), .int (gi σ 821 a), .int (gi σ 822 a), .int (gi σ 823 a), .int (gi σ 824 a), .int (gi σ 825 a), .int (gi σ 826 a), .int (gi σ 827 a)]
  | _ => []
abbrev Dp : Type := va_G × ClassId × ClassId × ClassId × ClassId × Nat × Nat
def cA (d : Dp) (c : Nat) : ClassId := if c = 10 then d.2.1 else if c = 11 then d.2.2.1 else if c = 12 then d.2.2.2.1 else d.2.2.2.2.1
def dfl (d : Dp) : Nat := d.2.2.2.2.2.1
def mir (d : Dp) : Nat := d.2.2.2.2.2.2
/-- the array's contents by its class -/
def ac (c : Nat) (σ : Sg) (a : Nat) : vp_A := if c = 10 then (gl σ a, .inl (ai σ a)) else if c = 11 then (gl σ a, .inr (.inl (aj σ a))) else (gl σ a, .inr (.inr (.inr (.inr (ap σ a)))))
def ce (d : Dp) (σ : Sg) (a : Nat) (H : Heap) : Prop :=
  (∀ ci : Nat, gc σ a = ci + 1 → ci < 9 → va_at d.1 vwCl (a, .inr (ci, fl ci σ a)) H) ∧ (10 ≤ gc σ a → H[a]? = some (vp_cell (cA d (gc σ a)) (ac (gc σ a) σ a)))
/-- the heap holds the abstract heap -/
def HW (d : Dp) (σ : Sg) (H : Heap) : Prop := H.size = hs σ ∧ ∀ a, gc σ a ≠ 0 → a < hs σ ∧ ce d σ a H
/-- what a method may change -/
def AA (σ : Sg) : Nat → Prop := fun q => (gc σ q ≠ 0 ∧ gc σ q ≠ 14) ∨ hs σ ≤ q
def PA (A : Nat → Prop) (σ : Sg) : Prop := ∀ a, gc σ a ≠ 0 → gc σ a ≠ 14 → A a
abbrev tysD (d : Dp) : List (ClassId × FieldType) := [(cA d 10, .int), (cA d 11, .long), (cA d 12, .object "FrameTalk$Thing"), (cA d 13, .object "java/lang/Object")]
abbrev gcn : MethodName := ⟨"java/lang/Object", "getClass", "()Ljava/lang/Class;"⟩
/-- what the tables say, at any state of the run -/
def KU (d : Dp) (U : State) : Prop := va_K d.1 vwCl (tysD d) U ∧ va_Nw (.methodLinkNest RX1 11 yX4_init "FrameTalk") U ∧ va_Nw (.methodLinkNest RX1 20 yX2_init "FrameTalk") U ∧ va_Mi "[Ljava/lang/Object;" (mir d) U ∧ va_Dc U ∧ va_AO "FrameTalk$Thing" U ∧ va_AO "java/lang/Object" U ∧ va_Nw (.castable RX3 "java/lang/Object") U
theorem KU.warm {d : Dp} {s U : State} (hW : s.WarmedH U.vm) (h : KU d s) : KU d U :=
  ⟨va_K.moved hW.alike h.1, va_Nw.warmM hW h.2.1, va_Nw.warmM hW h.2.2.1, h.2.2.2.1.moved hW.alike, h.2.2.2.2.1.moved hW.alike, h.2.2.2.2.2.1.moved hW.alike, h.2.2.2.2.2.2.1.moved hW.alike, va_Nw.warmC hW h.2.2.2.2.2.2.2⟩
theorem KU.same {d : Dp} {s U : State} (hv : s.vm = U.vm) (h : KU d s) : KU d U := by
  have hW : s.WarmedH U.vm := by rw [← hv]; exact State.WarmedH.refl s
  exact h.warm hW
/-- the static empty array -/
abbrev ZU (d : Dp) (A : Nat → Prop) (U : State) (H : Heap) : Prop := va_Z "java/util/ArrayList" "DEFAULTCAPACITY_EMPTY_ELEMENTDATA" "[Ljava/lang/Object;" (.ref (dfl d)) A U H
theorem ck {c : Prop} [Decidable c] {α : Type} {e : Option α} {v : α} (h : (if c then e else none) = some v) : c ∧ e = some v := by
  by_cases hc : c
  · rw [if_pos hc] at h; exact ⟨hc, h⟩
  · rw [if_neg hc] at h; cases h
theorem nn {α β : Type} {o : Option α} {f : α → Option β} {v : β} (h : o.bind f = some v) : ∃ a, o = some a ∧ f a = some v := by
  cases o with
  | none => cases h
  | some a => exact ⟨a, rfl, h⟩
theorem ift {c : Prop} [Decidable c] {α : Type} {a b v : α} (hc : c) (h : (if c then a else b) = v) : a = v := by rw [if_pos hc] at h; exact h
theorem iff' {c : Prop} [Decidable c] {α : Type} {a b v : α} (hc : ¬ c) (h : (if c then a else b) = v) : b = v := by rw [if_neg hc] at h; exact h
theorem va_rf_cat (r : Option Nat) : (va_rf r).category = 1 := by cases r <;> rfl
section GK
variable {p : Program} {l : Launch} {e : Env} {R : Room} {s : State} {m : MethodId} {args : Array Value} {below : List Frame} {meth : Method} {c : Code} {d : Dp} {A : Nat → Prop} {Q : State → Prop} {nL : Nat} {σ : Sg} {k n pc : Nat} {lv : List (Nat × Value)} {st : List Value} {own : String} {cc : ByteArray} {ret : Option FieldType}
/-- from any heap that holds σ, and any locals that hold lv -/
def Gk (p : Program) (l : Launch) (e : Env) (R : Room) (s : State) (m : MethodId) (args : Array Value) (below : List Frame) (meth : Method) (c : Code) (d : Dp) (A : Nat → Prop) (Q : State → Prop) (nL : Nat) (σ : Sg) (k n pc : Nat) (lv : List (Nat × Value)) (st : List Value) : Prop :=
  ∀ (H : Heap) (locs : List Loc) (ls : Array Slot), HW d σ H → va_S A s.heap H locs → PA A σ → lv_has ls nL lv → W p l e R s m args below meth c H locs k n Q (F0 m pc ls st)
/-- the method that is walked -/
def Ev (p : Program) (s : State) (m : MethodId) (args : Array Value) (meth : Method) (c : Code) (own : String) (cc : ByteArray) (nL : Nat) (ret : Option FieldType) (d : Dp) (A : Nat → Prop) : Prop :=
  p.tables.exec = Jvm.exec ∧ c.code = cc ∧ c.maxLocals = nL ∧ s.vm.findClass own = some m.cls ∧ (∀ w ∈ wsL_law, w.before args s = true) ∧ KU d s ∧ (∀ q, s.heap.size ≤ q → A q) ∧ meth.sig.returnType = ret ∧ meth.locks = false ∧ ZU d A s s.heap
theorem Ev.x (E : Ev p s m args meth c own cc nL ret d A) : p.tables.exec = Jvm.exec := E.1
theorem Ev.b (E : Ev p s m args meth c own cc nL ret d A) : c.code = cc := E.2.1
theorem Ev.ml (E : Ev p s m args meth c own cc nL ret d A) : c.maxLocals = nL := E.2.2.1
theorem Ev.ow (E : Ev p s m args meth c own cc nL ret d A) : s.vm.findClass own = some m.cls := E.2.2.2.1
theorem Ev.ts (E : Ev p s m args meth c own cc nL ret d A) : ∀ w ∈ wsL_law, w.before args s = true := E.2.2.2.2.1
theorem Ev.K (E : Ev p s m args meth c own cc nL ret d A) : KU d s := E.2.2.2.2.2.1
theorem Ev.fr (E : Ev p s m args meth c own cc nL ret d A) : ∀ q, s.heap.size ≤ q → A q := E.2.2.2.2.2.2.1
theorem Ev.rt (E : Ev p s m args meth c own cc nL ret d A) : meth.sig.returnType = ret := E.2.2.2.2.2.2.2.1
theorem Ev.lk (E : Ev p s m args meth c own cc nL ret d A) : meth.locks = false := E.2.2.2.2.2.2.2.2.1
theorem Ev.Z (E : Ev p s m args meth c own cc nL ret d A) : ZU d A s s.heap := E.2.2.2.2.2.2.2.2.2

theorem r_iconst (E : Ev p s m args meth c own cc nL ret d A) {z : Int} {v : Int32} (hd : decode cc pc = .ok (.iconst z, 1)) (hv : Int32.ofInt z = v) (kk : Gk p l e R s m args below meth c d A Q nL σ k n (pc + 1) lv (.int v :: st)) : Gk p l e R s m args below meth c d A Q nL σ k n pc lv st := fun H locs ls hH hS hP hl => lv_iconst E.x E.b hd hv (kk H locs ls hH hS hP hl)
theorem r_bipush (E : Ev p s m args meth c own cc nL ret d A) {z : Int} {v : Int32} (hd : decode cc pc = .ok (.bipush z, 2)) (hv : (Int8.ofInt z).toInt32 = v) (kk : Gk p l e R s m args below meth c d A Q nL σ k n (pc + 2) lv (.int v :: st)) : Gk p l e R s m args below meth c d A Q nL σ k n pc lv st := fun H locs ls hH hS hP hl => lv_bipush E.x E.b hd hv (kk H locs ls hH hS hP hl)
theorem r_sipush (E : Ev p s m args meth c own cc nL ret d A) {z : Int} {v : Int32} (hd : decode cc pc = .ok (.sipush z, 3)) (hv : (Int16.ofInt z).toInt32 = v) (kk : Gk p l e R s m args below meth c d A Q nL σ k n (pc + 3) lv (.int v :: st)) : Gk p l e R s m args below meth c d A Q nL σ k n pc lv st := fun H locs ls hH hS hP hl => lv_sipush E.x E.b hd hv (kk H locs ls hH hS hP hl)
theorem r_lconst (E : Ev p s m args meth c own cc nL ret d A) {z : Fin 2} {v : Int64} (hd : decode cc pc = .ok (.lconst z, 1)) (hv : Int64.ofNat (z : Nat) = v) (kk : Gk p l e R s m args below meth c d A Q nL σ k n (pc + 1) lv (.long v :: st)) : Gk p l e R s m args below meth c d A Q nL σ k n pc lv st := fun H locs ls hH hS hP hl => lv_lconst E.x E.b hd hv (kk H locs ls hH hS hP hl)
theorem r_ldc (E : Ev p s m args meth c own cc nL ret d A) {ix : Nat} {v : Int32} (hd : decode cc pc = .ok (.ldc ix, 2)) (hw : Cond.constant own ix v ∈ wsL_law) (kk : Gk p l e R s m args below meth c d A Q nL σ k n (pc + 2) lv (.int v :: st)) : Gk p l e R s m args below meth c d A Q nL σ k n pc lv st := fun H locs ls hH hS hP hl => lv_ldc E.x E.b E.ow (E.ts _ hw) hd (kk H locs ls hH hS hP hl)
theorem r_ldc2 (E : Ev p s m args meth c own cc nL ret d A) {ix : Nat} {v : Int64} (hd : decode cc pc = .ok (.ldc2_w ix, 3)) (hw : Cond.constantLong own ix v ∈ wsL_law) (kk : Gk p l e R s m args below meth c d A Q nL σ k n (pc + 3) lv (.long v :: st)) : Gk p l e R s m args below meth c d A Q nL σ k n pc lv st := fun H locs ls hH hS hP hl => lv_ldc2 E.x E.b E.ow (E.ts _ hw) hd (kk H locs ls hH hS hP hl)
theorem r_null (E : Ev p s m args meth c own cc nL ret d A)  (hd : decode cc pc = .ok (.aconst_null, 1)) (kk : Gk p l e R s m args below meth c d A Q nL σ k n (pc + 1) lv (va_rf none :: st)) : Gk p l e R s m args below meth c d A Q nL σ k n pc lv st := fun H locs ls hH hS hP hl => lv_null E.x E.b hd (kk H locs ls hH hS hP hl)
theorem r_iload_n (E : Ev p s m args meth c own cc nL ret d A) {z : Fin 4} {i j : Nat} {x : Int32} (hd : decode cc pc = .ok (.iload_n z, 1)) (hi : (z : Nat) = i) (hj : lv[j]? = some (i, .int x)) (kk : Gk p l e R s m args below meth c d A Q nL σ k n (pc + 1) lv (.int x :: st)) : Gk p l e R s m args below meth c d A Q nL σ k n pc lv st := fun H locs ls hH hS hP hl => lv_iload_n E.x E.b hd hi (lv_at hl j hj) (kk H locs ls hH hS hP hl)
theorem r_iload (E : Ev p s m args meth c own cc nL ret d A) {i j : Nat} {x : Int32} (hd : decode cc pc = .ok (.iload i, 2)) (hj : lv[j]? = some (i, .int x)) (kk : Gk p l e R s m args below meth c d A Q nL σ k n (pc + 2) lv (.int x :: st)) : Gk p l e R s m args below meth c d A Q nL σ k n pc lv st := fun H locs ls hH hS hP hl => lv_iload E.x E.b hd (lv_at hl j hj) (kk H locs ls hH hS hP hl)
theorem r_lload_n (E : Ev p s m args meth c own cc nL ret d A) {z : Fin 4} {i j : Nat} {x : Int64} (hd : decode cc pc = .ok (.lload_n z, 1)) (hi : (z : Nat) = i) (hj : lv[j]? = some (i, .long x)) (kk : Gk p l e R s m args below meth c d A Q nL σ k n (pc + 1) lv (.long x :: st)) : Gk p l e R s m args below meth c d A Q nL σ k n pc lv st := fun H locs ls hH hS hP hl => lv_lload_n E.x E.b hd hi (lv_at hl j hj) (kk H locs ls hH hS hP hl)
theorem r_lload (E : Ev p s m args meth c own cc nL ret d A) {i j : Nat} {x : Int64} (hd : decode cc pc = .ok (.lload i, 2)) (hj : lv[j]? = some (i, .long x)) (kk : Gk p l e R s m args below meth c d A Q nL σ k n (pc + 2) lv (.long x :: st)) : Gk p l e R s m args below meth c d A Q nL σ k n pc lv st := fun H locs ls hH hS hP hl => lv_lload E.x E.b hd (lv_at hl j hj) (kk H locs ls hH hS hP hl)
theorem r_aload_n (E : Ev p s m args meth c own cc nL ret d A) {z : Fin 4} {i j : Nat} {x : Option Nat} (hd : decode cc pc = .ok (.aload_n z, 1)) (hi : (z : Nat) = i) (hj : lv[j]? = some (i, va_rf x)) (kk : Gk p l e R s m args below meth c d A Q nL σ k n (pc + 1) lv (va_rf x :: st)) : Gk p l e R s m args below meth c d A Q nL σ k n pc lv st := fun H locs ls hH hS hP hl => by
  have h1 := lv_at hl j hj
  cases x with
  | none => exact lv_aload_nN E.x E.b hd hi h1 (kk H locs ls hH hS hP hl)
  | some a => exact lv_aload_n E.x E.b hd hi h1 (kk H locs ls hH hS hP hl)
theorem r_aload (E : Ev p s m args meth c own cc nL ret d A) {i j : Nat} {x : Option Nat} (hd : decode cc pc = .ok (.aload i, 2)) (hj : lv[j]? = some (i, va_rf x)) (kk : Gk p l e R s m args below meth c d A Q nL σ k n (pc + 2) lv (va_rf x :: st)) : Gk p l e R s m args below meth c d A Q nL σ k n pc lv st := fun H locs ls hH hS hP hl => by
  have h1 := lv_at hl j hj
  cases x with
  | none => exact lv_aloadN E.x E.b hd h1 (kk H locs ls hH hS hP hl)
  | some a => exact lv_aload E.x E.b hd h1 (kk H locs ls hH hS hP hl)
theorem r_istore_n (E : Ev p s m args meth c own cc nL ret d A) {z : Fin 4} {i : Nat} {x : Int32} {lv' : List (Nat × Value)} (hd : decode cc pc = .ok (.istore_n z, 1)) (hi : (z : Nat) = i) (hn : i < nL) (hq : (i, Value.int x) :: lv.filter (fun q => !(q.1 == i) && !(q.1 + 1 == i && q.2.category == 2)) = lv') (kk : Gk p l e R s m args below meth c d A Q nL σ k n (pc + 1) lv' st) : Gk p l e R s m args below meth c d A Q nL σ k n pc lv (.int x :: st) := fun H locs ls hH hS hP hl => lv_istore_n E.x E.b hd hi hl hn hq (fun ls2 hl2 => kk H locs ls2 hH hS hP hl2)
theorem r_istore (E : Ev p s m args meth c own cc nL ret d A) {i : Nat} {x : Int32} {lv' : List (Nat × Value)} (hd : decode cc pc = .ok (.istore i, 2)) (hn : i < nL) (hq : (i, Value.int x) :: lv.filter (fun q => !(q.1 == i) && !(q.1 + 1 == i && q.2.category == 2)) = lv') (kk : Gk p l e R s m args below meth c d A Q nL σ k n (pc + 2) lv' st) : Gk p l e R s m args below meth c d A Q nL σ k n pc lv (.int x :: st) := fun H locs ls hH hS hP hl => lv_istore E.x E.b hd hl hn hq (fun ls2 hl2 => kk H locs ls2 hH hS hP hl2)
theorem r_lstore_n (E : Ev p s m args meth c own cc nL ret d A) {z : Fin 4} {i : Nat} {x : Int64} {lv' : List (Nat × Value)} (hd : decode cc pc = .ok (.lstore_n z, 1)) (hi : (z : Nat) = i) (hn : i + 1 < nL) (hq : (i, Value.long x) :: lv.filter (fun q => !(q.1 == i) && (!(q.1 == i + 1) && !(q.1 + 1 == i && q.2.category == 2))) = lv') (kk : Gk p l e R s m args below meth c d A Q nL σ k n (pc + 1) lv' st) : Gk p l e R s m args below meth c d A Q nL σ k n pc lv (.long x :: st) := fun H locs ls hH hS hP hl => lv_lstore_n E.x E.b hd hi hl hn hq (fun ls2 hl2 => kk H locs ls2 hH hS hP hl2)
theorem r_lstore (E : Ev p s m args meth c own cc nL ret d A) {i : Nat} {x : Int64} {lv' : List (Nat × Value)} (hd : decode cc pc = .ok (.lstore i, 2)) (hn : i + 1 < nL) (hq : (i, Value.long x) :: lv.filter (fun q => !(q.1 == i) && (!(q.1 == i + 1) && !(q.1 + 1 == i && q.2.category == 2))) = lv') (kk : Gk p l e R s m args below meth c d A Q nL σ k n (pc + 2) lv' st) : Gk p l e R s m args below meth c d A Q nL σ k n pc lv (.long x :: st) := fun H locs ls hH hS hP hl => lv_lstore E.x E.b hd hl hn hq (fun ls2 hl2 => kk H locs ls2 hH hS hP hl2)
theorem r_astore_n (E : Ev p s m args meth c own cc nL ret d A) {z : Fin 4} {i : Nat} {x : Option Nat} {lv' : List (Nat × Value)} (hd : decode cc pc = .ok (.astore_n z, 1)) (hi : (z : Nat) = i) (hn : i < nL) (hq : (i, va_rf x) :: lv.filter (fun q => !(q.1 == i) && !(q.1 + 1 == i && q.2.category == 2)) = lv') (kk : Gk p l e R s m args below meth c d A Q nL σ k n (pc + 1) lv' st) : Gk p l e R s m args below meth c d A Q nL σ k n pc lv (va_rf x :: st) := fun H locs ls hH hS hP hl => by
  cases x with
  | none => exact lv_astore_nN E.x E.b hd hi hl hn hq (fun ls2 hl2 => kk H locs ls2 hH hS hP hl2)
  | some a => exact lv_astore_n E.x E.b hd hi hl hn hq (fun ls2 hl2 => kk H locs ls2 hH hS hP hl2)
theorem r_astore (E : Ev p s m args meth c own cc nL ret d A) {i : Nat} {x : Option Nat} {lv' : List (Nat × Value)} (hd : decode cc pc = .ok (.astore i, 2)) (hn : i < nL) (hq : (i, va_rf x) :: lv.filter (fun q => !(q.1 == i) && !(q.1 + 1 == i && q.2.category == 2)) = lv') (kk : Gk p l e R s m args below meth c d A Q nL σ k n (pc + 2) lv' st) : Gk p l e R s m args below meth c d A Q nL σ k n pc lv (va_rf x :: st) := fun H locs ls hH hS hP hl => by
  cases x with
  | none => exact lv_astoreN E.x E.b hd hl hn hq (fun ls2 hl2 => kk H locs ls2 hH hS hP hl2)
  | some a => exact lv_astore E.x E.b hd hl hn hq (fun ls2 hl2 => kk H locs ls2 hH hS hP hl2)
theorem r_iinc (E : Ev p s m args meth c own cc nL ret d A) {i j : Nat} {z : Int} {x v : Int32} {lv' : List (Nat × Value)} (hd : decode cc pc = .ok (.iinc i z, 3)) (hj : lv[j]? = some (i, .int x)) (hv : x + Int32.ofInt z = v) (hn : i < nL) (hq : (i, Value.int v) :: lv.filter (fun q => !(q.1 == i) && !(q.1 + 1 == i && q.2.category == 2)) = lv') (kk : Gk p l e R s m args below meth c d A Q nL σ k n (pc + 3) lv' st) : Gk p l e R s m args below meth c d A Q nL σ k n pc lv st := fun H locs ls hH hS hP hl => lv_iinc E.x E.b hd hl hj hv hn hq (fun ls2 hl2 => kk H locs ls2 hH hS hP hl2)
theorem r_iadd (E : Ev p s m args meth c own cc nL ret d A) {x y : Int32} (hd : decode cc pc = .ok (.iadd, 1)) (kk : Gk p l e R s m args below meth c d A Q nL σ k n (pc + 1) lv (.int (x + y) :: st)) : Gk p l e R s m args below meth c d A Q nL σ k n pc lv (.int y :: .int x :: st) := fun H locs ls hH hS hP hl => lv_iadd E.x E.b hd (kk H locs ls hH hS hP hl)
theorem r_isub (E : Ev p s m args meth c own cc nL ret d A) {x y : Int32} (hd : decode cc pc = .ok (.isub, 1)) (kk : Gk p l e R s m args below meth c d A Q nL σ k n (pc + 1) lv (.int (x - y) :: st)) : Gk p l e R s m args below meth c d A Q nL σ k n pc lv (.int y :: .int x :: st) := fun H locs ls hH hS hP hl => lv_isub E.x E.b hd (kk H locs ls hH hS hP hl)
theorem r_imul (E : Ev p s m args meth c own cc nL ret d A) {x y : Int32} (hd : decode cc pc = .ok (.imul, 1)) (kk : Gk p l e R s m args below meth c d A Q nL σ k n (pc + 1) lv (.int (x * y) :: st)) : Gk p l e R s m args below meth c d A Q nL σ k n pc lv (.int y :: .int x :: st) := fun H locs ls hH hS hP hl => lv_imul E.x E.b hd (kk H locs ls hH hS hP hl)
theorem r_iand (E : Ev p s m args meth c own cc nL ret d A) {x y : Int32} (hd : decode cc pc = .ok (.iand, 1)) (kk : Gk p l e R s m args below meth c d A Q nL σ k n (pc + 1) lv (.int (x &&& y) :: st)) : Gk p l e R s m args below meth c d A Q nL σ k n pc lv (.int y :: .int x :: st) := fun H locs ls hH hS hP hl => lv_iand E.x E.b hd (kk H locs ls hH hS hP hl)
theorem r_ishr (E : Ev p s m args meth c own cc nL ret d A) {x y : Int32} (hd : decode cc pc = .ok (.ishr, 1)) (kk : Gk p l e R s m args below meth c d A Q nL σ k n (pc + 1) lv (.int (x >>> (y &&& 31)) :: st)) : Gk p l e R s m args below meth c d A Q nL σ k n pc lv (.int y :: .int x :: st) := fun H locs ls hH hS hP hl => lv_ishr E.x E.b hd (kk H locs ls hH hS hP hl)
theorem r_ladd (E : Ev p s m args meth c own cc nL ret d A) {x y : Int64} (hd : decode cc pc = .ok (.ladd, 1)) (kk : Gk p l e R s m args below meth c d A Q nL σ k n (pc + 1) lv (.long (x + y) :: st)) : Gk p l e R s m args below meth c d A Q nL σ k n pc lv (.long y :: .long x :: st) := fun H locs ls hH hS hP hl => lv_ladd E.x E.b hd (kk H locs ls hH hS hP hl)
theorem r_lsub (E : Ev p s m args meth c own cc nL ret d A) {x y : Int64} (hd : decode cc pc = .ok (.lsub, 1)) (kk : Gk p l e R s m args below meth c d A Q nL σ k n (pc + 1) lv (.long (x - y) :: st)) : Gk p l e R s m args below meth c d A Q nL σ k n pc lv (.long y :: .long x :: st) := fun H locs ls hH hS hP hl => lv_lsub E.x E.b hd (kk H locs ls hH hS hP hl)
theorem r_lmul (E : Ev p s m args meth c own cc nL ret d A) {x y : Int64} (hd : decode cc pc = .ok (.lmul, 1)) (kk : Gk p l e R s m args below meth c d A Q nL σ k n (pc + 1) lv (.long (x * y) :: st)) : Gk p l e R s m args below meth c d A Q nL σ k n pc lv (.long y :: .long x :: st) := fun H locs ls hH hS hP hl => lv_lmul E.x E.b hd (kk H locs ls hH hS hP hl)
theorem r_land (E : Ev p s m args meth c own cc nL ret d A) {x y : Int64} (hd : decode cc pc = .ok (.land, 1)) (kk : Gk p l e R s m args below meth c d A Q nL σ k n (pc + 1) lv (.long (x &&& y) :: st)) : Gk p l e R s m args below meth c d A Q nL σ k n pc lv (.long y :: .long x :: st) := fun H locs ls hH hS hP hl => lv_land E.x E.b hd (kk H locs ls hH hS hP hl)
theorem r_lor (E : Ev p s m args meth c own cc nL ret d A) {x y : Int64} (hd : decode cc pc = .ok (.lor, 1)) (kk : Gk p l e R s m args below meth c d A Q nL σ k n (pc + 1) lv (.long (x ||| y) :: st)) : Gk p l e R s m args below meth c d A Q nL σ k n pc lv (.long y :: .long x :: st) := fun H locs ls hH hS hP hl => lv_lor E.x E.b hd (kk H locs ls hH hS hP hl)
theorem r_ldiv (E : Ev p s m args meth c own cc nL ret d A) {x y : Int64} (hd : decode cc pc = .ok (.ldiv, 1)) (h0 : ¬ y = 0) (kk : Gk p l e R s m args below meth c d A Q nL σ k n (pc + 1) lv (.long (x / y) :: st)) : Gk p l e R s m args below meth c d A Q nL σ k n pc lv (.long y :: .long x :: st) := fun H locs ls hH hS hP hl => lv_ldiv E.x E.b hd h0 (kk H locs ls hH hS hP hl)
theorem r_lrem (E : Ev p s m args meth c own cc nL ret d A) {x y : Int64} (hd : decode cc pc = .ok (.lrem, 1)) (h0 : ¬ y = 0) (kk : Gk p l e R s m args below meth c d A Q nL σ k n (pc + 1) lv (.long (x - x / y * y) :: st)) : Gk p l e R s m args below meth c d A Q nL σ k n pc lv (.long y :: .long x :: st) := fun H locs ls hH hS hP hl => lv_lrem E.x E.b hd h0 (kk H locs ls hH hS hP hl)
theorem r_lneg (E : Ev p s m args meth c own cc nL ret d A) {x : Int64} (hd : decode cc pc = .ok (.lneg, 1)) (kk : Gk p l e R s m args below meth c d A Q nL σ k n (pc + 1) lv (.long (-x) :: st)) : Gk p l e R s m args below meth c d A Q nL σ k n pc lv (.long x :: st) := fun H locs ls hH hS hP hl => lv_lneg E.x E.b hd (kk H locs ls hH hS hP hl)
theorem r_lshl (E : Ev p s m args meth c own cc nL ret d A) {x : Int64} {y : Int32} (hd : decode cc pc = .ok (.lshl, 1)) (kk : Gk p l e R s m args below meth c d A Q nL σ k n (pc + 1) lv (.long (x <<< (y.toInt64 &&& 63)) :: st)) : Gk p l e R s m args below meth c d A Q nL σ k n pc lv (.int y :: .long x :: st) := fun H locs ls hH hS hP hl => lv_lshl E.x E.b hd rfl (kk H locs ls hH hS hP hl)
theorem r_i2l (E : Ev p s m args meth c own cc nL ret d A) {x : Int32} (hd : decode cc pc = .ok (.i2l, 1)) (kk : Gk p l e R s m args below meth c d A Q nL σ k n (pc + 1) lv (.long x.toInt64 :: st)) : Gk p l e R s m args below meth c d A Q nL σ k n pc lv (.int x :: st) := fun H locs ls hH hS hP hl => lv_i2l E.x E.b hd rfl (kk H locs ls hH hS hP hl)
theorem r_l2i (E : Ev p s m args meth c own cc nL ret d A) {x : Int64} (hd : decode cc pc = .ok (.l2i, 1)) (kk : Gk p l e R s m args below meth c d A Q nL σ k n (pc + 1) lv (.int x.toInt32 :: st)) : Gk p l e R s m args below meth c d A Q nL σ k n pc lv (.long x :: st) := fun H locs ls hH hS hP hl => lv_l2i E.x E.b hd rfl (kk H locs ls hH hS hP hl)
theorem r_lcmp (E : Ev p s m args meth c own cc nL ret d A) {x y : Int64} (hd : decode cc pc = .ok (.lcmp, 1)) (kk : Gk p l e R s m args below meth c d A Q nL σ k n (pc + 1) lv (.int (lg_cmp x y) :: st)) : Gk p l e R s m args below meth c d A Q nL σ k n pc lv (.long y :: .long x :: st) := fun H locs ls hH hS hP hl => W.lcmp E.x E.b hd (kk H locs ls hH hS hP hl)
theorem r_dup (E : Ev p s m args meth c own cc nL ret d A) {v : Value} (hd : decode cc pc = .ok (.dup, 1)) (h1 : v.category = 1) (kk : Gk p l e R s m args below meth c d A Q nL σ k n (pc + 1) lv (v :: v :: st)) : Gk p l e R s m args below meth c d A Q nL σ k n pc lv (v :: st) := fun H locs ls hH hS hP hl => lv_dup E.x E.b hd h1 (kk H locs ls hH hS hP hl)
theorem r_pop (E : Ev p s m args meth c own cc nL ret d A) {v : Value} (hd : decode cc pc = .ok (.pop, 1)) (h1 : v.category = 1) (kk : Gk p l e R s m args below meth c d A Q nL σ k n (pc + 1) lv st) : Gk p l e R s m args below meth c d A Q nL σ k n pc lv (v :: st) := fun H locs ls hH hS hP hl => lv_pop E.x E.b hd h1 (kk H locs ls hH hS hP hl)
theorem r_dup_x1 (E : Ev p s m args meth c own cc nL ret d A) {v v2 : Value} (hd : decode cc pc = .ok (.dup_x1, 1)) (h1 : v.category = 1) (h2 : v2.category = 1) (kk : Gk p l e R s m args below meth c d A Q nL σ k n (pc + 1) lv (v :: v2 :: v :: st)) : Gk p l e R s m args below meth c d A Q nL σ k n pc lv (v :: v2 :: st) := fun H locs ls hH hS hP hl => lv_dup_x1 E.x E.b hd h1 h2 (kk H locs ls hH hS hP hl)
theorem r_dup2 (E : Ev p s m args meth c own cc nL ret d A) {v v2 : Value} (hd : decode cc pc = .ok (.dup2, 1)) (h1 : v.category = 1) (h2 : v2.category = 1) (kk : Gk p l e R s m args below meth c d A Q nL σ k n (pc + 1) lv (v :: v2 :: v :: v2 :: st)) : Gk p l e R s m args below meth c d A Q nL σ k n pc lv (v :: v2 :: st) := fun H locs ls hH hS hP hl => lv_dup2_11 E.x E.b hd h1 h2 (kk H locs ls hH hS hP hl)
theorem r_goto (E : Ev p s m args meth c own cc nL ret d A) {off : Int} {tgt : Nat} (hd : decode cc pc = .ok (.goto off, 3)) (ht : (pc : Int) + off = (tgt : Int)) (kk : Gk p l e R s m args below meth c d A Q nL σ k n tgt lv st) : Gk p l e R s m args below meth c d A Q nL σ k n pc lv st := fun H locs ls hH hS hP hl => lv_goto E.x E.b hd ht (kk H locs ls hH hS hP hl)
theorem r_icmp_eq (E : Ev p s m args meth c own cc nL ret d A) {x y : Int32} {off : Int} {tgt : Nat} (hd : decode cc pc = .ok (.if_icmp .eq off, 3)) (ht : (pc : Int) + off = (tgt : Int)) (kt : x = y → Gk p l e R s m args below meth c d A Q nL σ k n tgt lv st) (kf : ¬ x = y → Gk p l e R s m args below meth c d A Q nL σ k n (pc + 3) lv st) : Gk p l e R s m args below meth c d A Q nL σ k n pc lv (.int y :: .int x :: st) := fun H locs ls hH hS hP hl => lv_icmp_eq E.x E.b hd ht (fun q => kt q H locs ls hH hS hP hl) (fun q => kf q H locs ls hH hS hP hl)
theorem r_if_eq (E : Ev p s m args meth c own cc nL ret d A) {x : Int32} {off : Int} {tgt : Nat} (hd : decode cc pc = .ok (.ifCond .eq off, 3)) (ht : (pc : Int) + off = (tgt : Int)) (kt : x = 0 → Gk p l e R s m args below meth c d A Q nL σ k n tgt lv st) (kf : ¬ x = 0 → Gk p l e R s m args below meth c d A Q nL σ k n (pc + 3) lv st) : Gk p l e R s m args below meth c d A Q nL σ k n pc lv (.int x :: st) := fun H locs ls hH hS hP hl => lv_if_eq E.x E.b hd ht (fun q => kt q H locs ls hH hS hP hl) (fun q => kf q H locs ls hH hS hP hl)
theorem r_icmp_ne (E : Ev p s m args meth c own cc nL ret d A) {x y : Int32} {off : Int} {tgt : Nat} (hd : decode cc pc = .ok (.if_icmp .ne off, 3)) (ht : (pc : Int) + off = (tgt : Int)) (kt : ¬ x = y → Gk p l e R s m args below meth c d A Q nL σ k n tgt lv st) (kf : x = y → Gk p l e R s m args below meth c d A Q nL σ k n (pc + 3) lv st) : Gk p l e R s m args below meth c d A Q nL σ k n pc lv (.int y :: .int x :: st) := fun H locs ls hH hS hP hl => lv_icmp_ne E.x E.b hd ht (fun q => kt q H locs ls hH hS hP hl) (fun q => kf q H locs ls hH hS hP hl)
theorem r_if_ne (E : Ev p s m args meth c own cc nL ret d A) {x : Int32} {off : Int} {tgt : Nat} (hd : decode cc pc = .ok (.ifCond .ne off, 3)) (ht : (pc : Int) + off = (tgt : Int)) (kt : ¬ x = 0 → Gk p l e R s m args below meth c d A Q nL σ k n tgt lv st) (kf : x = 0 → Gk p l e R s m args below meth c d A Q nL σ k n (pc + 3) lv st) : Gk p l e R s m args below meth c d A Q nL σ k n pc lv (.int x :: st) := fun H locs ls hH hS hP hl => lv_if_ne E.x E.b hd ht (fun q => kt q H locs ls hH hS hP hl) (fun q => kf q H locs ls hH hS hP hl)
theorem r_icmp_lt (E : Ev p s m args meth c own cc nL ret d A) {x y : Int32} {off : Int} {tgt : Nat} (hd : decode cc pc = .ok (.if_icmp .lt off, 3)) (ht : (pc : Int) + off = (tgt : Int)) (kt : x < y → Gk p l e R s m args below meth c d A Q nL σ k n tgt lv st) (kf : ¬ x < y → Gk p l e R s m args below meth c d A Q nL σ k n (pc + 3) lv st) : Gk p l e R s m args below meth c d A Q nL σ k n pc lv (.int y :: .int x :: st) := fun H locs ls hH hS hP hl => lv_icmp_lt E.x E.b hd ht (fun q => kt q H locs ls hH hS hP hl) (fun q => kf q H locs ls hH hS hP hl)
theorem r_if_lt (E : Ev p s m args meth c own cc nL ret d A) {x : Int32} {off : Int} {tgt : Nat} (hd : decode cc pc = .ok (.ifCond .lt off, 3)) (ht : (pc : Int) + off = (tgt : Int)) (kt : x < 0 → Gk p l e R s m args below meth c d A Q nL σ k n tgt lv st) (kf : ¬ x < 0 → Gk p l e R s m args below meth c d A Q nL σ k n (pc + 3) lv st) : Gk p l e R s m args below meth c d A Q nL σ k n pc lv (.int x :: st) := fun H locs ls hH hS hP hl => lv_if_lt E.x E.b hd ht (fun q => kt q H locs ls hH hS hP hl) (fun q => kf q H locs ls hH hS hP hl)
theorem r_icmp_ge (E : Ev p s m args meth c own cc nL ret d A) {x y : Int32} {off : Int} {tgt : Nat} (hd : decode cc pc = .ok (.if_icmp .ge off, 3)) (ht : (pc : Int) + off = (tgt : Int)) (kt : y ≤ x → Gk p l e R s m args below meth c d A Q nL σ k n tgt lv st) (kf : ¬ y ≤ x → Gk p l e R s m args below meth c d A Q nL σ k n (pc + 3) lv st) : Gk p l e R s m args below meth c d A Q nL σ k n pc lv (.int y :: .int x :: st) := fun H locs ls hH hS hP hl => lv_icmp_ge E.x E.b hd ht (fun q => kt q H locs ls hH hS hP hl) (fun q => kf q H locs ls hH hS hP hl)
theorem r_if_ge (E : Ev p s m args meth c own cc nL ret d A) {x : Int32} {off : Int} {tgt : Nat} (hd : decode cc pc = .ok (.ifCond .ge off, 3)) (ht : (pc : Int) + off = (tgt : Int)) (kt : 0 ≤ x → Gk p l e R s m args below meth c d A Q nL σ k n tgt lv st) (kf : ¬ 0 ≤ x → Gk p l e R s m args below meth c d A Q nL σ k n (pc + 3) lv st) : Gk p l e R s m args below meth c d A Q nL σ k n pc lv (.int x :: st) := fun H locs ls hH hS hP hl => lv_if_ge E.x E.b hd ht (fun q => kt q H locs ls hH hS hP hl) (fun q => kf q H locs ls hH hS hP hl)
theorem r_icmp_gt (E : Ev p s m args meth c own cc nL ret d A) {x y : Int32} {off : Int} {tgt : Nat} (hd : decode cc pc = .ok (.if_icmp .gt off, 3)) (ht : (pc : Int) + off = (tgt : Int)) (kt : y < x → Gk p l e R s m args below meth c d A Q nL σ k n tgt lv st) (kf : ¬ y < x → Gk p l e R s m args below meth c d A Q nL σ k n (pc + 3) lv st) : Gk p l e R s m args below meth c d A Q nL σ k n pc lv (.int y :: .int x :: st) := fun H locs ls hH hS hP hl => lv_icmp_gt E.x E.b hd ht (fun q => kt q H locs ls hH hS hP hl) (fun q => kf q H locs ls hH hS hP hl)
theorem r_if_gt (E : Ev p s m args meth c own cc nL ret d A) {x : Int32} {off : Int} {tgt : Nat} (hd : decode cc pc = .ok (.ifCond .gt off, 3)) (ht : (pc : Int) + off = (tgt : Int)) (kt : 0 < x → Gk p l e R s m args below meth c d A Q nL σ k n tgt lv st) (kf : ¬ 0 < x → Gk p l e R s m args below meth c d A Q nL σ k n (pc + 3) lv st) : Gk p l e R s m args below meth c d A Q nL σ k n pc lv (.int x :: st) := fun H locs ls hH hS hP hl => lv_if_gt E.x E.b hd ht (fun q => kt q H locs ls hH hS hP hl) (fun q => kf q H locs ls hH hS hP hl)
theorem r_icmp_le (E : Ev p s m args meth c own cc nL ret d A) {x y : Int32} {off : Int} {tgt : Nat} (hd : decode cc pc = .ok (.if_icmp .le off, 3)) (ht : (pc : Int) + off = (tgt : Int)) (kt : x ≤ y → Gk p l e R s m args below meth c d A Q nL σ k n tgt lv st) (kf : ¬ x ≤ y → Gk p l e R s m args below meth c d A Q nL σ k n (pc + 3) lv st) : Gk p l e R s m args below meth c d A Q nL σ k n pc lv (.int y :: .int x :: st) := fun H locs ls hH hS hP hl => lv_icmp_le E.x E.b hd ht (fun q => kt q H locs ls hH hS hP hl) (fun q => kf q H locs ls hH hS hP hl)
theorem r_if_le (E : Ev p s m args meth c own cc nL ret d A) {x : Int32} {off : Int} {tgt : Nat} (hd : decode cc pc = .ok (.ifCond .le off, 3)) (ht : (pc : Int) + off = (tgt : Int)) (kt : x ≤ 0 → Gk p l e R s m args below meth c d A Q nL σ k n tgt lv st) (kf : ¬ x ≤ 0 → Gk p l e R s m args below meth c d A Q nL σ k n (pc + 3) lv st) : Gk p l e R s m args below meth c d A Q nL σ k n pc lv (.int x :: st) := fun H locs ls hH hS hP hl => lv_if_le E.x E.b hd ht (fun q => kt q H locs ls hH hS hP hl) (fun q => kf q H locs ls hH hS hP hl)
theorem r_acmp_eq (E : Ev p s m args meth c own cc nL ret d A) {o1 o2 : Option Nat} {off : Int} {tgt : Nat} (hd : decode cc pc = .ok (.if_acmp .eq off, 3)) (ht : (pc : Int) + off = (tgt : Int)) (kt : o1 = o2 → Gk p l e R s m args below meth c d A Q nL σ k n tgt lv st) (kf : ¬ o1 = o2 → Gk p l e R s m args below meth c d A Q nL σ k n (pc + 3) lv st) : Gk p l e R s m args below meth c d A Q nL σ k n pc lv (va_rf o2 :: va_rf o1 :: st) := fun H locs ls hH hS hP hl => lv_acmp_eq E.x E.b hd ht (fun q => kt q H locs ls hH hS hP hl) (fun q => kf q H locs ls hH hS hP hl)
theorem r_acmp_ne (E : Ev p s m args meth c own cc nL ret d A) {o1 o2 : Option Nat} {off : Int} {tgt : Nat} (hd : decode cc pc = .ok (.if_acmp .ne off, 3)) (ht : (pc : Int) + off = (tgt : Int)) (kt : ¬ o1 = o2 → Gk p l e R s m args below meth c d A Q nL σ k n tgt lv st) (kf : o1 = o2 → Gk p l e R s m args below meth c d A Q nL σ k n (pc + 3) lv st) : Gk p l e R s m args below meth c d A Q nL σ k n pc lv (va_rf o2 :: va_rf o1 :: st) := fun H locs ls hH hS hP hl => lv_acmp_ne E.x E.b hd ht (fun q => kt q H locs ls hH hS hP hl) (fun q => kf q H locs ls hH hS hP hl)
theorem r_ifnull (E : Ev p s m args meth c own cc nL ret d A) {o : Option Nat} {off : Int} {tgt : Nat} (hd : decode cc pc = .ok (.ifnull off, 3)) (ht : (pc : Int) + off = (tgt : Int)) (kt : o = none → Gk p l e R s m args below meth c d A Q nL σ k n tgt lv st) (kf : ¬ o = none → Gk p l e R s m args below meth c d A Q nL σ k n (pc + 3) lv st) : Gk p l e R s m args below meth c d A Q nL σ k n pc lv (va_rf o :: st) := fun H locs ls hH hS hP hl => by
  cases o with
  | none => exact lv_ifnullN E.x E.b hd ht (kt rfl H locs ls hH hS hP hl)
  | some a => exact lv_ifnull E.x E.b hd (kf (fun q => by cases q) H locs ls hH hS hP hl)
theorem r_ifnonnull (E : Ev p s m args meth c own cc nL ret d A) {o : Option Nat} {off : Int} {tgt : Nat} (hd : decode cc pc = .ok (.ifnonnull off, 3)) (ht : (pc : Int) + off = (tgt : Int)) (kt : ¬ o = none → Gk p l e R s m args below meth c d A Q nL σ k n tgt lv st) (kf : o = none → Gk p l e R s m args below meth c d A Q nL σ k n (pc + 3) lv st) : Gk p l e R s m args below meth c d A Q nL σ k n pc lv (va_rf o :: st) := fun H locs ls hH hS hP hl => by
  cases o with
  | none => exact lv_ifnonnullN E.x E.b hd (kf rfl H locs ls hH hS hP hl)
  | some a => exact lv_ifnonnull E.x E.b hd ht (kt (fun q => by cases q) H locs ls hH hS hP hl)
theorem r_look (E : Ev p s m args meth c own cc nL ret d A) {df : Int} {ps : Array (Int × Int)} {len : Nat} {x : Int32} {off : Int} {tgt : Nat} (hd : decode cc pc = .ok (.lookupswitch df ps, len)) (hp : (ps.toList.zip (ps.toList.drop 1)).all (fun (a, next) => a.1 < next.1) = true) (ho : Op.lookupswitch.offset ps.toList df x.toInt = off) (ht : (pc : Int) + off = (tgt : Int)) (kk : Gk p l e R s m args below meth c d A Q nL σ k n tgt lv st) : Gk p l e R s m args below meth c d A Q nL σ k n pc lv (.int x :: st) := fun H locs ls hH hS hP hl => lv_lookup E.x E.b hd hp ho ht (kk H locs ls hH hS hP hl)
theorem r_tab (E : Ev p s m args meth c own cc nL ret d A) {df lo hi : Int} {offs : Array Int} {len : Nat} {x : Int32} {off : Int} {tgt : Nat} (hd : decode cc pc = .ok (.tableswitch df lo hi offs, len)) (ho : (if x.toInt < lo then df else if hi < x.toInt then df else offs.getD (x.toInt - lo).toNat df) = off) (hz : ¬ x.toInt < lo → ¬ hi < x.toInt → (x.toInt - lo).toNat < offs.size) (ht : (pc : Int) + off = (tgt : Int)) (kk : Gk p l e R s m args below meth c d A Q nL σ k n tgt lv st) : Gk p l e R s m args below meth c d A Q nL σ k n pc lv (.int x :: st) := fun H locs ls hH hS hP hl => by
  by_cases h1 : x.toInt < lo
  · rw [if_pos h1] at ho
    subst ho
    exact lv_tableOut E.x E.b hd (Or.inl h1) ht (kk H locs ls hH hS hP hl)
  · rw [if_neg h1] at ho
    by_cases h2 : hi < x.toInt
    · rw [if_pos h2] at ho
      subst ho
      exact lv_tableOut E.x E.b hd (Or.inr h2) ht (kk H locs ls hH hS hP hl)
    · rw [if_neg h2] at ho
      have h3 := hz h1 h2
      have h4 : offs[(x.toInt - lo).toNat]? = some off := by
        rw [← ho, Array.getElem?_eq_getElem h3]
        simp [Array.getD, h3]
      exact lv_tableIn E.x E.b hd h1 h2 h4 ht (kk H locs ls hH hS hP hl)
end GK
end
section
theorem p1 {D : va_G} {cl : List vw_C} {q : Nat × va_E} {H : Heap} (h : va_at D cl q H) : va_P D cl [q] H := fun k x hk => by
  have hz : k < 1 := (List.getElem?_eq_some_iff.mp hk).1
  rw [show k = 0 by omega] at hk
  cases hk
  exact h
theorem HW.up {d : Dp} {σ σ' : Sg} {a : Nat} {H H1 : Heap} (h : HW d σ H) (h1 : hs σ' = hs σ) (h2 : gc σ' = gc σ) (hz : H1.size = H.size) (oq : ∀ q : Nat, q ≠ a → H1[q]? = H[q]?) (hf : ∀ b, b ≠ a → ∀ c, fl c σ' b = fl c σ b) (hac : ∀ b, b ≠ a → ∀ c, ac c σ' b = ac c σ b) (he : ce d σ' a H1) : HW d σ' H1 := by
  refine ⟨by rw [hz, h1]; exact h.1, fun b hb => ?_⟩
  rw [h2] at hb
  obtain ⟨hlt, hce⟩ := h.2 b hb
  refine ⟨by rw [h1]; exact hlt, ?_⟩
  by_cases hba : b = a
  · subst hba
    exact he
  · refine ⟨fun ci hc hci => ?_, fun hc => ?_⟩
    · rw [h2] at hc
      rw [hf b hba]
      exact (hce.1 ci hc hci).kept (oq b hba)
    · rw [h2] at hc ⊢
      rw [hac b hba, oq b hba]
      exact hce.2 hc
theorem HW.grow {d : Dp} {σ σ' : Sg} {cls : Nat} {H H1 : Heap} (h : HW d σ H) (h1 : hs σ' = hs σ + 1) (h2 : gc σ' = u1 (gc σ) (hs σ) cls) (hz : H1.size = H.size + 1) (oq : ∀ q : Nat, q < H.size → H1[q]? = H[q]?) (hf : ∀ b, b ≠ hs σ → ∀ c, fl c σ' b = fl c σ b) (hac : ∀ b, b ≠ hs σ → ∀ c, ac c σ' b = ac c σ b) (he : ce d σ' (hs σ) H1) : HW d σ' H1 := by
  refine ⟨by rw [hz, h1, h.1], fun b hb => ?_⟩
  rw [h2] at hb
  by_cases hba : b = hs σ
  · subst hba
    exact ⟨by rw [h1]; omega, he⟩
  · simp only [u1, hba, if_false] at hb
    obtain ⟨hlt, hce⟩ := h.2 b hb
    have hq := oq b (by rw [h.1]; exact hlt)
    have hgb : gc σ' b = gc σ b := by rw [h2]; simp [u1, hba]
    refine ⟨by rw [h1]; omega, fun ci hc hci => ?_, fun hc => ?_⟩
    · rw [hgb] at hc
      rw [hf b hba]
      exact (hce.1 ci hc hci).kept hq
    · rw [hgb] at hc ⊢
      rw [hac b hba, hq]
      exact hce.2 hc
theorem fl_si {σ : Sg} {f a b : Nat} {x : Int32} (h : b ≠ a) (c : Nat) : fl c (si σ f a x) b = fl c σ b := by
  have e : ∀ j, gi (si σ f a x) j b = gi σ j b := fun j => by show (if j = f ∧ b = a then x else gi σ j b) = _; simp [h]
  unfold fl
  split <;> first | rfl | (simp only [e]; done) | (simp only [e]; rfl)
theorem fl_sj {σ : Sg} {f a b : Nat} {x : Int64} (h : b ≠ a) (c : Nat) : fl c (sj σ f a x) b = fl c σ b := by
  have e : ∀ j, gj (sj σ f a x) j b = gj σ j b := fun j => by show (if j = f ∧ b = a then x else gj σ j b) = _; simp [h]
  unfold fl
  split <;> first | rfl | (simp only [e]; done) | (simp only [e]; rfl)
theorem fl_sp {σ : Sg} {f a b : Nat} {x : Option Nat} (h : b ≠ a) (c : Nat) : fl c (sp σ f a x) b = fl c σ b := by
  have e : ∀ j, gp (sp σ f a x) j b = gp σ j b := fun j => by show (if j = f ∧ b = a then x else gp σ j b) = _; simp [h]
  unfold fl
  split <;> first | rfl | (simp only [e]; done) | (simp only [e]; rfl)
theorem fl_nw {σ : Sg} {b cls : Nat} (h : b ≠ hs σ) (c : Nat) : fl c (nw σ cls) b = fl c σ b := by
  have e1 : ∀ j, gi (nw σ cls) j b = gi σ j b := fun j => by show (if b = hs σ then 0 else gi σ j b) = _; simp [h]
  have e2 : ∀ j, gj (nw σ cls) j b = gj σ j b := fun j => by show (if b = hs σ then 0 else gj σ j b) = _; simp [h]
  have e3 : ∀ j, gp (nw σ cls) j b = gp σ j b := fun j => by show (if b = hs σ then none else gp σ j b) = _; simp [h]
  unfold fl
  split <;> simp only [e1, e2, e3]
theorem ac_wi {σ : Sg} {a i b : Nat} {x : Int32} (h : b ≠ a) (c : Nat) : ac c (wi σ a i x) b = ac c σ b := by
  have e : ai (wi σ a i x) b = ai σ b := by funext j; show (if b = a ∧ j = i then x else ai σ b j) = _; simp [h]
  unfold ac
  rw [e]
  rfl
theorem ac_wj {σ : Sg} {a i b : Nat} {x : Int64} (h : b ≠ a) (c : Nat) : ac c (wj σ a i x) b = ac c σ b := by
  have e : aj (wj σ a i x) b = aj σ b := by funext j; show (if b = a ∧ j = i then x else aj σ b j) = _; simp [h]
  unfold ac
  rw [e]
  rfl
theorem ac_wp {σ : Sg} {a i b : Nat} {x : Option Nat} (h : b ≠ a) (c : Nat) : ac c (wp σ a i x) b = ac c σ b := by
  have e : ap (wp σ a i x) b = ap σ b := by funext j; show (if b = a ∧ j = i then x else ap σ b j) = _; simp [h]
  unfold ac
  rw [e]
  rfl
theorem ac_wr {σ : Sg} {a b : Nat} {f : Nat → Option Nat} (h : b ≠ a) (c : Nat) : ac c (wr σ a f) b = ac c σ b := by
  have e : ap (wr σ a f) b = ap σ b := by show (if b = a then f else ap σ b) = _; simp [h]
  unfold ac
  rw [e]
  rfl
theorem ac_na {σ : Sg} {b cls N : Nat} (h : b ≠ hs σ) (c : Nat) : ac c (na σ cls N) b = ac c σ b := by
  have e0 : gl (na σ cls N) b = gl σ b := by show (if b = hs σ then N else gl σ b) = _; simp [h]
  have e1 : ai (na σ cls N) b = ai σ b := by show (if b = hs σ then (fun _ => 0) else ai σ b) = _; simp [h]
  have e2 : aj (na σ cls N) b = aj σ b := by show (if b = hs σ then (fun _ => 0) else aj σ b) = _; simp [h]
  have e3 : ap (na σ cls N) b = ap σ b := by show (if b = hs σ then (fun _ => none) else ap σ b) = _; simp [h]
  unfold ac
  rw [e0, e1, e2, e3]
theorem wi_at {σ : Sg} {a i : Nat} {x : Int32} : ai (wi σ a i x) a = upd (ai σ a) i x := by funext j; show (if a = a ∧ j = i then x else ai σ a j) = (if j = i then x else ai σ a j); simp
theorem wj_at {σ : Sg} {a i : Nat} {x : Int64} : aj (wj σ a i x) a = vp_updL (aj σ a) i x := by funext j; show (if a = a ∧ j = i then x else aj σ a j) = (if j = i then x else aj σ a j); simp
theorem wp_at {σ : Sg} {a i : Nat} {x : Option Nat} : ap (wp σ a i x) a = va_up (ap σ a) i x := by funext j; show (if a = a ∧ j = i then x else ap σ a j) = (if j = i then x else ap σ a j); simp

theorem fs_0 {σ : Sg} {a : Nat} {x : Int32} : fl 0 (si σ 0 a x) a = (fl 0 σ a).set 0 (Value.int x) := by simp [fl, gi, gj, gp, si, u2, List.set]
theorem fs_1 {σ : Sg} {a : Nat} {x : Option Nat} : fl 0 (sp σ 1 a x) a = (fl 0 σ a).set 1 (va_rf x) := by simp [fl, gi, gj, gp, sp, u2, List.set]
theorem fs_2 {σ : Sg} {a : Nat} {x : Int32} : fl 0 (si σ 2 a x) a = (fl 0 σ a).set 2 (Value.int x) := by simp [fl, gi, gj, gp, si, u2, List.set]
theorem fs_100 {σ : Sg} {a : Nat} {x : Option Nat} : fl 1 (sp σ 100 a x) a = (fl 1 σ a).set 0 (va_rf x) := by simp [fl, gi, gj, gp, sp, u2, List.set]
theorem fs_101 {σ : Sg} {a : Nat} {x : Int32} : fl 1 (si σ 101 a x) a = (fl 1 σ a).set 1 (Value.int x) := by simp [fl, gi, gj, gp, si, u2, List.set]
theorem fs_102 {σ : Sg} {a : Nat} {x : Option Nat} : fl 1 (sp σ 102 a x) a = (fl 1 σ a).set 2 (va_rf x) := by simp [fl, gi, gj, gp, sp, u2, List.set]
theorem fs_103 {σ : Sg} {a : Nat} {x : Option Nat} : fl 1 (sp σ 103 a x) a = (fl 1 σ a).set 3 (va_rf x) := by simp [fl, gi, gj, gp, sp, u2, List.set]
theorem fs_104 {σ : Sg} {a : Nat} {x : Int32} : fl 1 (si σ 104 a x) a = (fl 1 σ a).set 4 (Value.int x) := by simp [fl, gi, gj, gp, si, u2, List.set]
theorem fs_105 {σ : Sg} {a : Nat} {x : Option Nat} : fl 1 (sp σ 105 a x) a = (fl 1 σ a).set 5 (va_rf x) := by simp [fl, gi, gj, gp, sp, u2, List.set]
theorem fs_106 {σ : Sg} {a : Nat} {x : Option Nat} : fl 1 (sp σ 106 a x) a = (fl 1 σ a).set 6 (va_rf x) := by simp [fl, gi, gj, gp, sp, u2, List.set]
theorem fs_107 {σ : Sg} {a : Nat} {x : Option Nat} : fl 1 (sp σ 107 a x) a = (fl 1 σ a).set 7 (va_rf x) := by simp [fl, gi, gj, gp, sp, u2, List.set]
theorem fs_108 {σ : Sg} {a : Nat} {x : Option Nat} : fl 1 (sp σ 108 a x) a = (fl 1 σ a).set 8 (va_rf x) := by simp [fl, gi, gj, gp, sp, u2, List.set]
theorem fs_109 {σ : Sg} {a : Nat} {x : Int64} : fl 1 (sj σ 109 a x) a = (fl 1 σ a).set 9 (Value.long x) := by simp [fl, gi, gj, gp, sj, u2, List.set]
theorem fs_200 {σ : Sg} {a : Nat} {x : Option Nat} : fl 2 (sp σ 200 a x) a = (fl 2 σ a).set 0 (va_rf x) := by simp [fl, gi, gj, gp, sp, u2, List.set]
theorem fs_201 {σ : Sg} {a : Nat} {x : Option Nat} : fl 2 (sp σ 201 a x) a = (fl 2 σ a).set 1 (va_rf x) := by simp [fl, gi, gj, gp, sp, u2, List.set]
theorem fs_202 {σ : Sg} {a : Nat} {x : Option Nat} : fl 2 (sp σ 202 a x) a = (fl 2 σ a).set 2 (va_rf x) := by simp [fl, gi, gj, gp, sp, u2, List.set]
theorem fs_203 {σ : Sg} {a : Nat} {x : Option Nat} : fl 2 (sp σ 203 a x) a = (fl 2 σ a).set 3 (va_rf x) := by simp [fl, gi, gj, gp, sp, u2, List.set]
theorem fs_204 {σ : Sg} {a : Nat} {x : Option Nat} : fl 2 (sp σ 204 a x) a = (fl 2 σ a).set 4 (va_rf x) := by simp [fl, gi, gj, gp, sp, u2, List.set]
theorem fs_205 {σ : Sg} {a : Nat} {x : Option Nat} : fl 2 (sp σ 205 a x) a = (fl 2 σ a).set 5 (va_rf x) := by simp [fl, gi, gj, gp, sp, u2, List.set]
theorem fs_206 {σ : Sg} {a : Nat} {x : Option Nat} : fl 2 (sp σ 206 a x) a = (fl 2 σ a).set 6 (va_rf x) := by simp [fl, gi, gj, gp, sp, u2, List.set]
theorem fs_207 {σ : Sg} {a : Nat} {x : Int32} : fl 2 (si σ 207 a x) a = (fl 2 σ a).set 7 (Value.int x) := by simp [fl, gi, gj, gp, si, u2, List.set]
theorem fs_208 {σ : Sg} {a : Nat} {x : Int32} : fl 2 (si σ 208 a x) a = (fl 2 σ a).set 8 (Value.int x) := by simp [fl, gi, gj, gp, si, u2, List.set]
theorem fs_209 {σ : Sg} {a : Nat} {x : Int32} : fl 2 (si σ 209 a x) a = (fl 2 σ a).set 9 (Value.int x) := by simp [fl, gi, gj, gp, si, u2, List.set]
theorem fs_210 {σ : Sg} {a : Nat} {x : Int32} : fl 2 (si σ 210 a x) a = (fl 2 σ a).set 10 (Value.int x) := by simp [fl, gi, gj, gp, si, u2, List.set]
theorem fs_211 {σ : Sg} {a : Nat} {x : Int32} : fl 2 (si σ 211 a x) a = (fl 2 σ a).set 11 (Value.int x) := by simp [fl, gi, gj, gp, si, u2, List.set]
theorem fs_212 {σ : Sg} {a : Nat} {x : Int32} : fl 2 (si σ 212 a x) a = (fl 2 σ a).set 12 (Value.int x) := by simp [fl, gi, gj, gp, si, u2, List.set]
theorem fs_300 {σ : Sg} {a : Nat} {x : Int32} : fl 3 (si σ 300 a x) a = (fl 3 σ a).set 0 (Value.int x) := by simp [fl, gi, gj, gp, si, u2, List.set]
theorem fs_301 {σ : Sg} {a : Nat} {x : Int32} : fl 3 (si σ 301 a x) a = (fl 3 σ a).set 1 (Value.int x) := by simp [fl, gi, gj, gp, si, u2, List.set]
theorem fs_400 {σ : Sg} {a : Nat} {x : Int32} : fl 4 (si σ 400 a x) a = (fl 4 σ a).set 0 (Value.int x) := by simp [fl, gi, gj, gp, si, u2, List.set]
theorem fs_401 {σ : Sg} {a : Nat} {x : Int32} : fl 4 (si σ 401 a x) a = (fl 4 σ a).set 1 (Value.int x) := by simp [fl, gi, gj, gp, si, u2, List.set]
theorem fs_402 {σ : Sg} {a : Nat} {x : Int64} : fl 4 (sj σ 402 a x) a = (fl 4 σ a).set 2 (Value.long x) := by simp [fl, gi, gj, gp, sj, u2, List.set]
theorem fs_403 {σ : Sg} {a : Nat} {x : Int32} : fl 4 (si σ 403 a x) a = (fl 4 σ a).set 3 (Value.int x) := by simp [fl, gi, gj, gp, si, u2, List.set]
theorem fs_404 {σ : Sg} {a : Nat} {x : Int32} : fl 4 (si σ 404 a x) a = (fl 4 σ a).set 4 (Value.int x) := by simp [fl, gi, gj, gp, si, u2, List.set]
theorem fs_405 {σ : Sg} {a : Nat} {x : Int32} : fl 4 (si σ 405 a x) a = (fl 4 σ a).set 5 (Value.int x) := by simp [fl, gi, gj, gp, si, u2, List.set]
theorem fs_500 {σ : Sg} {a : Nat} {x : Option Nat} : fl 5 (sp σ 500 a x) a = (fl 5 σ a).set 0 (va_rf x) := by simp [fl, gi, gj, gp, sp, u2, List.set]
theorem fs_600 {σ : Sg} {a : Nat} {x : Int32} : fl 6 (si σ 600 a x) a = (fl 6 σ a).set 0 (Value.int x) := by simp [fl, gi, gj, gp, si, u2, List.set]
theorem fs_601 {σ : Sg} {a : Nat} {x : Int32} : fl 6 (si σ 601 a x) a = (fl 6 σ a).set 1 (Value.int x) := by simp [fl, gi, gj, gp, si, u2, List.set]
theorem fs_602 {σ : Sg} {a : Nat} {x : Int64} : fl 6 (sj σ 602 a x) a = (fl 6 σ a).set 2 (Value.long x) := by simp [fl, gi, gj, gp, sj, u2, List.set]
theorem fs_603 {σ : Sg} {a : Nat} {x : Option Nat} : fl 6 (sp σ 603 a x) a = (fl 6 σ a).set 3 (va_rf x) := by simp [fl, gi, gj, gp, sp, u2, List.set]
theorem fs_604 {σ : Sg} {a : Nat} {x : Option Nat} : fl 6 (sp σ 604 a x) a = (fl 6 σ a).set 4 (va_rf x) := by simp [fl, gi, gj, gp, sp, u2, List.set]
theorem fs_605 {σ : Sg} {a : Nat} {x : Int32} : fl 6 (si σ 605 a x) a = (fl 6 σ a).set 5 (Value.int x) := by simp [fl, gi, gj, gp, si, u2, List.set]
theorem fs_606 {σ : Sg} {a : Nat} {x : Option Nat} : fl 6 (sp σ 606 a x) a = (fl 6 σ a).set 6 (va_rf x) := by simp [fl, gi, gj, gp, sp, u2, List.set]
theorem fs_700 {σ : Sg} {a : Nat} {x : Option Nat} : fl 7 (sp σ 700 a x) a = (fl 7 σ a).set 0 (va_rf x) := by simp [fl, gi, gj, gp, sp, u2, List.set]
theorem fs_701 {σ : Sg} {a : Nat} {x : Option Nat} : fl 7 (sp σ 701 a x) a = (fl 7 σ a).set 1 (va_rf x) := by simp [fl, gi, gj, gp, sp, u2, List.set]
theorem fs_800 {σ : Sg} {a : Nat} {x : Option Nat} : fl 8 (sp σ 800 a x) a = (fl 8 σ a).set 0 (va_rf x) := by simp [fl, gi, gj, gp, sp, u2, List.set]
theorem fs_801 {σ : Sg} {a : Nat} {x : Option Nat} : fl 8 (sp σ 801 a x) a = (fl 8 σ a).set 1 (va_rf x) := by simp [fl, gi, gj, gp, sp, u2, List.set]
theorem fs_802 {σ : Sg} {a : Nat} {x : Option Nat} : fl 8 (sp σ 802 a x) a = (fl 8 σ a).set 2 (va_rf x) := by simp [fl, gi, gj, gp, sp, u2, List.set]
theorem fs_803 {σ : Sg} {a : Nat} {x : Option Nat} : fl 8 (sp σ 803 a x) a = (fl 8 σ a).set 3 (va_rf x) := by simp [fl, gi, gj, gp, sp, u2, List.set]
theorem fs_804 {σ : Sg} {a : Nat} {x : Int32} : fl 8 (si σ 804 a x) a = (fl 8 σ a).set 4 (Value.int x) := by simp [fl, gi, gj, gp, si, u2, List.set]
theorem fs_805 {σ : Sg} {a : Nat} {x : Option Nat} : fl 8 (sp σ 805 a x) a = (fl 8 σ a).set 5 (va_rf x) := by simp [fl, gi, gj, gp, sp, u2, List.set]
theorem fs_806 {σ : Sg} {a : Nat} {x : Option Nat} : fl 8 (sp σ 806 a x) a = (fl 8 σ a).set 6 (va_rf x) := by simp [fl, gi, gj, gp, sp, u2, List.set]
theorem fs_807 {σ : Sg} {a : Nat} {x : Option Nat} : fl 8 (sp σ 807 a x) a = (fl 8 σ a).set 7 (va_rf x) := by simp [fl, gi, gj, gp, sp, u2, List.set]
theorem fs_808 {σ : Sg} {a : Nat} {x : Option Nat} : fl 8 (sp σ 808 a x) a = (fl 8 σ a).set 8 (va_rf x) := by simp [fl, gi, gj, gp, sp, u2, List.set]
theorem fs_809 {σ : Sg} {a : Nat} {x : Int32} : fl 8 (si σ 809 a x) a = (fl 8 σ a).set 9 (Value.int x) := by simp [fl, gi, gj, gp, si, u2, List.set]
theorem fs_810 {σ : Sg} {a : Nat} {x : Option Nat} : fl 8 (sp σ 810 a x) a = (fl 8 σ a).set 10 (va_rf x) := by simp [fl, gi, gj, gp, sp, u2, List.set]
theorem fs_811 {σ : Sg} {a : Nat} {x : Int32} : fl 8 (si σ 811 a x) a = (fl 8 σ a).set 11 (Value.int x) := by simp [fl, gi, gj, gp, si, u2, List.set]
theorem fs_812 {σ : Sg} {a : Nat} {x : Option Nat} : fl 8 (sp σ 812 a x) a = (fl 8 σ a).set 12 (va_rf x) := by simp [fl, gi, gj, gp, sp, u2, List.set]
theorem fs_813 {σ : Sg} {a : Nat} {x : Int32} : fl 8 (si σ 813 a x) a = (fl 8 σ a).set 13 (Value.int x) := by simp [fl, gi, gj, gp, si, u2, List.set]
theorem fs_814 {σ : Sg} {a : Nat} {x : Option Nat} : fl 8 (sp σ 814 a x) a = (fl 8 σ a).set 14 (va_rf x) := by simp [fl, gi, gj, gp, sp, u2, List.set]
theorem fs_815 {σ : Sg} {a : Nat} {x : Option Nat} : fl 8 (sp σ 815 a x) a = (fl 8 σ a).set 15 (va_rf x) := by simp [fl, gi, gj, gp, sp, u2, List.set]
theorem fs_816 {σ : Sg} {a : Nat} {x : Option Nat} : fl 8 (sp σ 816 a x) a = (fl 8 σ a).set 16 (va_rf x) := by simp [fl, gi, gj, gp, sp, u2, List.set]
theorem fs_817 {σ : Sg} {a : Nat} {x : Option Nat} : fl 8 (sp σ 817 a x) a = (fl 8 σ a).set 17 (va_rf x) := by simp [fl, gi, gj, gp, sp, u2, List.set]
theorem fs_818 {σ : Sg} {a : Nat} {x : Int32} : fl 8 (si σ 818 a x) a = (fl 8 σ a).set 18 (Value.int x) := by simp [fl, gi, gj, gp, si, u2, List.set]
theorem fs_819 {σ : Sg} {a : Nat} {x : Int32} : fl 8 (si σ 819 a x) a = (fl 8 σ a).set 19 (Value.int x) := by simp [fl, gi, gj, gp, si, u2, List.set]
theorem fs_820 {σ : Sg} {a : Nat} {x : Int32} : fl 8 (si σ 820 a x) a = (fl 8 σ a).set 20 (Value.int x) := by simp [fl, gi, gj, gp, si, u2, List.set]
theorem fs_821 {σ : Sg} {a : Nat} {x : Int32} : fl 8 (si σ 821 a x) a = (fl 8 σ a).set 21 (Value.int x) := by simp [fl, gi, gj, gp, si, u2, List.set]
theorem fs_822 {σ : Sg} {a : Nat} {x : Int32} : fl 8 (si σ 822 a x) a = (fl 8 σ a).set 22 (Value.int x) := by simp [fl, gi, gj, gp, si, u2, List.set]
theorem fs_823 {σ : Sg} {a : Nat} {x : Int32} : fl 8 (si σ 823 a x) a = (fl 8 σ a).set 23 (Value.int x) := by simp [fl, gi, gj, gp, si, u2, List.set]
theorem fs_824 {σ : Sg} {a : Nat} {x : Int32} : fl 8 (si σ 824 a x) a = (fl 8 σ a).set 24 (Value.int x) := by simp [fl, gi, gj, gp, si, u2, List.set]
theorem fs_825 {σ : Sg} {a : Nat} {x : Int32} : fl 8 (si σ 825 a x) a = (fl 8 σ a).set 25 (Value.int x) := by simp [fl, gi, gj, gp, si, u2, List.set]
theorem fs_826 {σ : Sg} {a : Nat} {x : Int32} : fl 8 (si σ 826 a x) a = (fl 8 σ a).set 26 (Value.int x) := by simp [fl, gi, gj, gp, si, u2, List.set]
theorem fs_827 {σ : Sg} {a : Nat} {x : Int32} : fl 8 (si σ 827 a x) a = (fl 8 σ a).set 27 (Value.int x) := by simp [fl, gi, gj, gp, si, u2, List.set]

section HP
variable {p : Program} {l : Launch} {e : Env} {R : Room} {s : State} {m : MethodId} {args : Array Value} {below : List Frame} {meth : Method} {c : Code} {d : Dp} {A : Nat → Prop} {Q : State → Prop} {nL : Nat} {σ : Sg} {k n pc : Nat} {lv : List (Nat × Value)} {st : List Value} {own : String} {cc : ByteArray} {ret : Option FieldType}
theorem r_get (E : Ev p s m args meth c own cc nL ret d A) {ci j ix N a : Nat} {C rf : String} {T : u_T} {o : Option Nat} {v : Value} (hd : decode cc pc = .ok (.getfield ix, 3)) (hw : Cond.fieldLink own ix rf (T j).2.1 (T j).2.2.1 ∈ wsL_law) (hsame : ∀ x, s.fieldFound? (T j).1 (T j).2.1 (T j).2.2.1 = some x → s.fieldFound? rf (T j).2.1 (T j).2.2.1 = some x) (hc : vwCl[ci]? = some (C, T, N)) (hci : ci < 9) (hin : ∀ w ∈ u_ws C T N, w ∈ wsL_law) (hj : j < N) (ho : o = some a) (hg : gc σ a = ci + 1) (hv : (fl ci σ a)[j]? = some v) (kk : Gk p l e R s m args below meth c d A Q nL σ k n (pc + 3) lv (v :: st)) : Gk p l e R s m args below meth c d A Q nL σ k n pc lv (va_rf o :: st) := fun H locs ls hH hS hP hl => by
  subst ho
  have h1 := (hH.2 a (by omega)).2.1 ci hg hci
  exact va_get (ws := [(a, .inr (ci, fl ci σ a))]) E.x E.b E.ts hin E.ow E.K.1 (p1 h1) 0 rfl hc j hj (E.ts _ hw) hsame hv hd (kk H locs ls hH hS hP hl)
theorem r_put (E : Ev p s m args meth c own cc nL ret d A) {ci j ix N a : Nat} {C rf : String} {T : u_T} {o : Option Nat} {v : Value} {ty : FieldType} {σ' : Sg} (hd : decode cc pc = .ok (.putfield ix, 3)) (hw : Cond.fieldLink own ix rf (T j).2.1 (T j).2.2.1 ∈ wsL_law) (hsame : ∀ x, s.fieldFound? (T j).1 (T j).2.1 (T j).2.2.1 = some x → s.fieldFound? rf (T j).2.1 (T j).2.2.1 = some x) (hc : vwCl[ci]? = some (C, T, N)) (hci : ci < 9) (hin : ∀ w ∈ u_ws C T N, w ∈ wsL_law) (hj : j < N) (ty0 : Nat → FieldType) (hty : ∀ k, k < N → parseFieldDescriptor (T k).2.2.1 = some (ty0 k)) (hnm : ∀ a, a < N → ∀ b, b < N → a ≠ b → (T a).2.1 ≠ (T b).2.1) (hfin : (T j).2.2.2 = false) (hpd : parseFieldDescriptor (T j).2.2.1 = some ty) (hn : narrow ty v = v) (hfit : fits ty v = true) (ho : o = some a) (hg : gc σ a = ci + 1) (hl0 : j < (fl ci σ a).length) (h1 : hs σ' = hs σ) (h2 : gc σ' = gc σ) (hf : ∀ b, b ≠ a → ∀ c, fl c σ' b = fl c σ b) (hac : ∀ b c, ac c σ' b = ac c σ b) (hset : fl ci σ' a = (fl ci σ a).set j v) (kk : Gk p l e R s m args below meth c d A Q nL σ' k n (pc + 3) lv st) : Gk p l e R s m args below meth c d A Q nL σ k n pc lv (v :: va_rf o :: st) := fun H locs ls hH hS hP hl => by
  subst ho
  have hap := va_apart (own := own) E.ts hin ty0 hty hnm E.K.1 hc
  obtain ⟨r, h5, cell, q1, q2, q3, q4⟩ := (hH.2 a (by omega)).2.1 ci hg hci
  have hr : r = (C, T, N) := Option.some.inj (h5.symm.trans hc)
  subst hr
  obtain ⟨hSl, hfc, kC, hkC, hkind⟩ := E.K.1.1 ci _ hc
  obtain ⟨cf, kf, fi, f, hi, hsl⟩ := hSl j hj
  have hlay := E.ts _ (hin _ (u_in_lay hj))
  unfold u_lay at hlay
  rw [if_neg (by rw [hfin]; decide)] at hlay
  have hst := (u_facts hfc hkC (u_lays E.ts hin hj) hi).1
  have h6 := u_store hfc hkC hkind hlay hi hpd hn hfit
  refine W.putK E.x E.b (f := f) ⟨E.ow, E.ts _ hw, ⟨_, _, _, hsame _ hi⟩, hst⟩ (by rw [q2]; exact h6) q1 q3 (by rw [hsl]; exact k2_hasslot (q4 j hj)) rfl rfl hd fun H' e1 e2 e3 => ?_
  rw [hsl] at e1 ⊢
  refine kk H' _ ls ?_ (hS.put e2 e3 (hP a (by omega) (by omega))) (fun b h3 h4 => hP b (by rw [← h2]; exact h3) (by rw [← h2]; exact h4)) hl
  refine hH.up h1 h2 e2 e3 hf (fun b _ c => hac b c) ⟨fun ci2 hc2 hci2 => ?_, fun hc2 => ?_⟩
  · have e5 : ci2 = ci := by rw [h2, hg] at hc2; omega
    subst e5
    rw [hset]
    exact ⟨_, hc, t_OB.to (V := updV (vp_V (fl ci2 σ a)) j v) ⟨_, e1, q2, q3, t_set q4 hap hj v⟩ (fun i _ => vp_updV_set hl0 v i)⟩
  · rw [h2, hg] at hc2
    omega
theorem r_putF (E : Ev p s m args meth c own cc nL ret d A) {ci j ix N a : Nat} {C rf : String} {T : u_T} {o : Option Nat} {v : Value} {ty : FieldType} {σ' : Sg} (hd : decode cc pc = .ok (.putfield ix, 3)) (hw : Cond.fieldLink own ix rf (T j).2.1 (T j).2.2.1 ∈ wsL_law) (hsame : ∀ x, s.fieldFound? (T j).1 (T j).2.1 (T j).2.2.1 = some x → s.fieldFound? rf (T j).2.1 (T j).2.2.1 = some x) (hc : vwCl[ci]? = some (C, T, N)) (hci : ci < 9) (hin : ∀ w ∈ u_ws C T N, w ∈ wsL_law) (hj : j < N) (ty0 : Nat → FieldType) (hty : ∀ k, k < N → parseFieldDescriptor (T k).2.2.1 = some (ty0 k)) (hnm : ∀ a, a < N → ∀ b, b < N → a ≠ b → (T a).2.1 ≠ (T b).2.1) (hfin : (T j).2.2.2 = true) (hini : meth.name = "<init>") (hdecl : (T j).1 = own) (hpd : parseFieldDescriptor (T j).2.2.1 = some ty) (hn : narrow ty v = v) (hfit : fits ty v = true) (ho : o = some a) (hg : gc σ a = ci + 1) (hl0 : j < (fl ci σ a).length) (h1 : hs σ' = hs σ) (h2 : gc σ' = gc σ) (hf : ∀ b, b ≠ a → ∀ c, fl c σ' b = fl c σ b) (hac : ∀ b c, ac c σ' b = ac c σ b) (hset : fl ci σ' a = (fl ci σ a).set j v) (kk : Gk p l e R s m args below meth c d A Q nL σ' k n (pc + 3) lv st) : Gk p l e R s m args below meth c d A Q nL σ k n pc lv (v :: va_rf o :: st) := fun H locs ls hH hS hP hl => by
  subst ho
  have hap := va_apart (own := own) E.ts hin ty0 hty hnm E.K.1 hc
  obtain ⟨r, h5, cell, q1, q2, q3, q4⟩ := (hH.2 a (by omega)).2.1 ci hg hci
  have hr : r = (C, T, N) := Option.some.inj (h5.symm.trans hc)
  subst hr
  obtain ⟨hSl, hfc, kC, hkC, hkind⟩ := E.K.1.1 ci _ hc
  obtain ⟨cf, kf, fi, f, hi, hsl⟩ := hSl j hj
  have hlay := E.ts _ (hin _ (u_in_lay hj))
  unfold u_lay at hlay
  rw [if_pos hfin] at hlay
  have hst := (u_facts hfc hkC (u_lays E.ts hin hj) hi).1
  have hcf : m.cls = cf := by
    obtain ⟨_, _, c', _, _, _, -, -, hf', -, -, -, hown2, -⟩ := Cond.laysFinal_spec hlay
    have e1 : c' = cf := by have := hi.symm.trans hf'; simp at this; exact this.1.symm
    rw [hdecl] at hown2
    rw [← e1]; exact Option.some.inj (E.ow.symm.trans hown2)
  have h6 := u_fits hfc hkC hkind (Or.inr hlay) hi hpd hn hfit
  refine W.putFinK E.x E.b E.ow (E.ts _ hw) (hsame _ hi) hst hcf hini (by rw [q2]; exact h6) q1 q3 (by rw [hsl]; exact k2_hasslot (q4 j hj)) rfl rfl hd fun H' e1 e2 e3 => ?_
  rw [hsl] at e1 ⊢
  refine kk H' _ ls ?_ (hS.put e2 e3 (hP a (by omega) (by omega))) (fun b h3 h4 => hP b (by rw [← h2]; exact h3) (by rw [← h2]; exact h4)) hl
  refine hH.up h1 h2 e2 e3 hf (fun b _ c => hac b c) ⟨fun ci2 hc2 hci2 => ?_, fun hc2 => ?_⟩
  · have e5 : ci2 = ci := by rw [h2, hg] at hc2; omega
    subst e5
    rw [hset]
    exact ⟨_, hc, t_OB.to (V := updV (vp_V (fl ci2 σ a)) j v) ⟨_, e1, q2, q3, t_set q4 hap hj v⟩ (fun i _ => vp_updV_set hl0 v i)⟩
  · rw [h2, hg] at hc2
    omega
theorem r_new (E : Ev p s m args meth c own cc nL ret d A) {ci ix N : Nat} {C : String} {T : u_T} (hd : decode cc pc = .ok (.new ix, 3)) (w1 : Cond.classLink own ix C ∈ wsL_law) (w2 : Cond.instantiable C N ∈ wsL_law) (w3 : Cond.initialized C ∈ wsL_law) (hc : vwCl[ci]? = some (C, T, N)) (hci : ci < 9) (hin : ∀ w ∈ u_ws C T N, w ∈ wsL_law) (ty0 : Nat → FieldType) (hty : ∀ k, k < N → parseFieldDescriptor (T k).2.2.1 = some (ty0 k)) (hfs : ∀ j, j < N → defaultValue (ty0 j) = vp_V (fl ci (nw σ (ci + 1)) (hs σ)) j) (hR : k + 1 ≤ R.cells ∧ n + N ≤ R.slots) (kk : Gk p l e R s m args below meth c d A Q nL (nw σ (ci + 1)) (k + 1) (n + N) (pc + 3) lv (va_rf (some (hs σ)) :: st)) : Gk p l e R s m args below meth c d A Q nL σ k n pc lv st := fun H locs ls hH hS hP hl => by
  have hKn := E.K.1.1 ci _ hc
  refine W.newcK E.x E.b E.ow (E.ts _ w1) (E.ts _ w2) (E.ts _ w3) rfl hd hR.1 hR.2 hKn.2.1 rfl fun H1 kC hkC e1 z1 o1 => ?_
  have hgs : gc (nw σ (ci + 1)) (hs σ) = ci + 1 := by show (if hs σ = hs σ then ci + 1 else gc σ (hs σ)) = _; simp
  have hk := kk H1 locs ls ?_ ⟨Nat.le_trans hS.1 (by omega), fun x h1 h2 => (o1 x (Nat.lt_of_lt_of_le h1 hS.1)).trans (hS.2.1 x h1 h2), hS.2.2⟩ ?_ hl
  · rw [← hH.1] at hk
    exact hk
  · refine hH.grow rfl rfl z1 o1 (fun b hb c => fl_nw hb c) (fun _ _ _ => rfl) ⟨fun ci2 hc2 hci2 => ?_, fun hc2 => ?_⟩
    · have e5 : ci2 = ci := by rw [hgs] at hc2; omega
      subst e5
      rw [← hH.1]
      rw [hH.1] at e1 ⊢
      exact ⟨_, hc, (u_born ty0 E.ts hin hKn hkC e1 hty).to hfs⟩
    · rw [hgs] at hc2
      omega
  · intro b hb1 hb2
    by_cases hba : b = hs σ
    · subst hba
      exact E.fr _ (by rw [← hH.1]; exact hS.1)
    · have hgb : gc (nw σ (ci + 1)) b = gc σ b := by show (if b = hs σ then ci + 1 else gc σ b) = _; simp [hba]
      exact hP b (by rw [← hgb]; exact hb1) (by rw [← hgb]; exact hb2)
theorem HW.arr {d : Dp} {H : Heap} (hH : HW d σ H) {a : Nat} (hg : 10 ≤ gc σ a) : H[a]? = some (vp_cell (cA d (gc σ a)) (ac (gc σ a) σ a)) := (hH.2 a (by omega)).2.2 hg
theorem HW.arP {d : Dp} {H : Heap} (hH : HW d σ H) {a : Nat} (hg : 10 ≤ gc σ a) : va_P d.1 vwCl [(a, .inl (cA d (gc σ a), ac (gc σ a) σ a))] H := p1 (hH.arr hg)
theorem r_iald (E : Ev p s m args meth c own cc nL ret d A) {a : Nat} {o : Option Nat} {i : Int32} (hd : decode cc pc = .ok (.iaload, 1)) (ho : o = some a) (hg : gc σ a = 10) (hi : vp_in i (gl σ a)) (kk : Gk p l e R s m args below meth c d A Q nL σ k n (pc + 1) lv (.int (ai σ a i.toNatClampNeg) :: st)) : Gk p l e R s m args below meth c d A Q nL σ k n pc lv (.int i :: va_rf o :: st) := fun H locs ls hH hS hP hl => by
  subst ho
  have h1 := hH.arP (a := a) (by omega)
  rw [hg] at h1
  exact va_iald E.x E.b E.K.1 h1 0 0 rfl rfl hi hd (kk H locs ls hH hS hP hl)
theorem r_lald (E : Ev p s m args meth c own cc nL ret d A) {a : Nat} {o : Option Nat} {i : Int32} (hd : decode cc pc = .ok (.laload, 1)) (ho : o = some a) (hg : gc σ a = 11) (hi : vp_in i (gl σ a)) (kk : Gk p l e R s m args below meth c d A Q nL σ k n (pc + 1) lv (.long (aj σ a i.toNatClampNeg) :: st)) : Gk p l e R s m args below meth c d A Q nL σ k n pc lv (.int i :: va_rf o :: st) := fun H locs ls hH hS hP hl => by
  subst ho
  have h1 := hH.arP (a := a) (by omega)
  rw [hg] at h1
  exact va_lald E.x E.b E.K.1 h1 0 1 rfl rfl hi hd (kk H locs ls hH hS hP hl)
theorem r_aaldT (E : Ev p s m args meth c own cc nL ret d A) {a : Nat} {o : Option Nat} {i : Int32} (hd : decode cc pc = .ok (.aaload, 1)) (ho : o = some a) (hg : gc σ a = 12) (hi : vp_in i (gl σ a)) (kk : Gk p l e R s m args below meth c d A Q nL σ k n (pc + 1) lv (va_rf (ap σ a i.toNatClampNeg) :: st)) : Gk p l e R s m args below meth c d A Q nL σ k n pc lv (.int i :: va_rf o :: st) := fun H locs ls hH hS hP hl => by
  subst ho
  have h1 := hH.arP (a := a) (by omega)
  rw [hg] at h1
  exact va_aldq E.x E.b E.K.1 h1 0 2 rfl rfl hi hd (kk H locs ls hH hS hP hl)
theorem r_aaldO (E : Ev p s m args meth c own cc nL ret d A) {a : Nat} {o : Option Nat} {i : Int32} (hd : decode cc pc = .ok (.aaload, 1)) (ho : o = some a) (hg : gc σ a = 13) (hi : vp_in i (gl σ a)) (kk : Gk p l e R s m args below meth c d A Q nL σ k n (pc + 1) lv (va_rf (ap σ a i.toNatClampNeg) :: st)) : Gk p l e R s m args below meth c d A Q nL σ k n pc lv (.int i :: va_rf o :: st) := fun H locs ls hH hS hP hl => by
  subst ho
  have h1 := hH.arP (a := a) (by omega)
  rw [hg] at h1
  exact va_aldq E.x E.b E.K.1 h1 0 3 rfl rfl hi hd (kk H locs ls hH hS hP hl)
theorem r_alenI (E : Ev p s m args meth c own cc nL ret d A) {a : Nat} {o : Option Nat} (hd : decode cc pc = .ok (.arraylength, 1)) (ho : o = some a) (hg : gc σ a = 10) (kk : Gk p l e R s m args below meth c d A Q nL σ k n (pc + 1) lv (.int (Int32.ofNat (gl σ a)) :: st)) : Gk p l e R s m args below meth c d A Q nL σ k n pc lv (va_rf o :: st) := fun H locs ls hH hS hP hl => by
  subst ho
  have h1 := hH.arP (a := a) (by omega)
  rw [hg] at h1
  exact va_alen E.x E.b E.K.1 h1 0 0 rfl rfl (show Int32.ofNat (ac 10 σ a).1 = Int32.ofNat (gl σ a) from rfl) hd (kk H locs ls hH hS hP hl)
theorem r_alenJ (E : Ev p s m args meth c own cc nL ret d A) {a : Nat} {o : Option Nat} (hd : decode cc pc = .ok (.arraylength, 1)) (ho : o = some a) (hg : gc σ a = 11) (kk : Gk p l e R s m args below meth c d A Q nL σ k n (pc + 1) lv (.int (Int32.ofNat (gl σ a)) :: st)) : Gk p l e R s m args below meth c d A Q nL σ k n pc lv (va_rf o :: st) := fun H locs ls hH hS hP hl => by
  subst ho
  have h1 := hH.arP (a := a) (by omega)
  rw [hg] at h1
  exact va_alen E.x E.b E.K.1 h1 0 1 rfl rfl (show Int32.ofNat (ac 11 σ a).1 = Int32.ofNat (gl σ a) from rfl) hd (kk H locs ls hH hS hP hl)
theorem r_alenT (E : Ev p s m args meth c own cc nL ret d A) {a : Nat} {o : Option Nat} (hd : decode cc pc = .ok (.arraylength, 1)) (ho : o = some a) (hg : gc σ a = 12) (kk : Gk p l e R s m args below meth c d A Q nL σ k n (pc + 1) lv (.int (Int32.ofNat (gl σ a)) :: st)) : Gk p l e R s m args below meth c d A Q nL σ k n pc lv (va_rf o :: st) := fun H locs ls hH hS hP hl => by
  subst ho
  have h1 := hH.arP (a := a) (by omega)
  rw [hg] at h1
  exact va_alen E.x E.b E.K.1 h1 0 2 rfl rfl (show Int32.ofNat (ac 12 σ a).1 = Int32.ofNat (gl σ a) from rfl) hd (kk H locs ls hH hS hP hl)
theorem r_alenO (E : Ev p s m args meth c own cc nL ret d A) {a : Nat} {o : Option Nat} (hd : decode cc pc = .ok (.arraylength, 1)) (ho : o = some a) (hg : gc σ a = 13) (kk : Gk p l e R s m args below meth c d A Q nL σ k n (pc + 1) lv (.int (Int32.ofNat (gl σ a)) :: st)) : Gk p l e R s m args below meth c d A Q nL σ k n pc lv (va_rf o :: st) := fun H locs ls hH hS hP hl => by
  subst ho
  have h1 := hH.arP (a := a) (by omega)
  rw [hg] at h1
  exact va_alen E.x E.b E.K.1 h1 0 3 rfl rfl (show Int32.ofNat (ac 13 σ a).1 = Int32.ofNat (gl σ a) from rfl) hd (kk H locs ls hH hS hP hl)
theorem r_alenE (E : Ev p s m args meth c own cc nL ret d A) {a : Nat} {o : Option Nat} (hd : decode cc pc = .ok (.arraylength, 1)) (ho : o = some a) (hg : gc σ a = 14) (kk : Gk p l e R s m args below meth c d A Q nL σ k n (pc + 1) lv (.int (Int32.ofNat (gl σ a)) :: st)) : Gk p l e R s m args below meth c d A Q nL σ k n pc lv (va_rf o :: st) := fun H locs ls hH hS hP hl => by
  subst ho
  have h1 := hH.arP (a := a) (by omega)
  rw [hg] at h1
  exact va_alen E.x E.b E.K.1 h1 0 3 rfl rfl (show Int32.ofNat (ac 14 σ a).1 = Int32.ofNat (gl σ a) from rfl) hd (kk H locs ls hH hS hP hl)
theorem r_iast (E : Ev p s m args meth c own cc nL ret d A) {a : Nat} {o : Option Nat} {i : Int32} {x : Int32} (hd : decode cc pc = .ok (.iastore, 1)) (ho : o = some a) (hg : gc σ a = 10) (hi : vp_in i (gl σ a)) (kk : Gk p l e R s m args below meth c d A Q nL (wi σ a i.toNatClampNeg x) k n (pc + 1) lv st) : Gk p l e R s m args below meth c d A Q nL σ k n pc lv (.int x :: .int i :: va_rf o :: st) := fun H locs ls hH hS hP hl => by
  subst ho
  have h1 := hH.arr (a := a) (by omega)
  rw [hg] at h1
  refine W.iast E.x E.b h1 ((E.K.1.2 0 _ rfl).1 (gl σ a) (fun j => Value.int (ai σ a j))) (fun q => by cases q) (by show ¬ (i < 0 ∨ (arrV _ _ _).slots.size ≤ _); rw [arrV_size]; exact hi) rfl rfl hd fun H' e1 e2 e3 => ?_
  refine kk H' _ ls ?_ (hS.put e2 e3 (hP a (by omega) (by omega))) (fun b h3 h4 => hP b h3 h4) hl
  refine hH.up (a := a) rfl rfl e2 e3 (fun _ _ _ => rfl) (fun b hb c => ac_wi hb c) ⟨fun ci2 hc2 hci2 => ?_, fun hc2 => ?_⟩
  · have hc3 : gc σ a = ci2 + 1 := hc2
    omega
  · show H'[a]? = some (vp_cell (cA d (gc σ a)) (ac (gc σ a) (wi σ a i.toNatClampNeg x) a))
    rw [hg, e1]
    show some ((arrV (cA d 10) (gl σ a) _).setSlot _ _) = some (vp_cell (cA d 10) (gl σ a, .inl (ai (wi σ a i.toNatClampNeg x) a)))
    rw [arrV_store, wi_at, vp_cell_i]
    refine congrArg (fun z => some (arrV (cA d 10) (gl σ a) z)) ?_
    funext q
    by_cases hq : q = i.toNatClampNeg
    · subst hq
      simp [updV, upd, va_rf]
    · simp [updV, upd, hq]
theorem r_last (E : Ev p s m args meth c own cc nL ret d A) {a : Nat} {o : Option Nat} {i : Int32} {x : Int64} (hd : decode cc pc = .ok (.lastore, 1)) (ho : o = some a) (hg : gc σ a = 11) (hi : vp_in i (gl σ a)) (kk : Gk p l e R s m args below meth c d A Q nL (wj σ a i.toNatClampNeg x) k n (pc + 1) lv st) : Gk p l e R s m args below meth c d A Q nL σ k n pc lv (.long x :: .int i :: va_rf o :: st) := fun H locs ls hH hS hP hl => by
  subst ho
  have h1 := hH.arr (a := a) (by omega)
  rw [hg] at h1
  refine W.last E.x E.b h1 ((E.K.1.2 1 _ rfl).1 (gl σ a) (fun j => Value.long (aj σ a j))) (fun q => by cases q) (by show ¬ (i < 0 ∨ (arrV _ _ _).slots.size ≤ _); rw [arrV_size]; exact hi) rfl rfl hd fun H' e1 e2 e3 => ?_
  refine kk H' _ ls ?_ (hS.put e2 e3 (hP a (by omega) (by omega))) (fun b h3 h4 => hP b h3 h4) hl
  refine hH.up (a := a) rfl rfl e2 e3 (fun _ _ _ => rfl) (fun b hb c => ac_wj hb c) ⟨fun ci2 hc2 hci2 => ?_, fun hc2 => ?_⟩
  · have hc3 : gc σ a = ci2 + 1 := hc2
    omega
  · show H'[a]? = some (vp_cell (cA d (gc σ a)) (ac (gc σ a) (wj σ a i.toNatClampNeg x) a))
    rw [hg, e1]
    show some ((arrV (cA d 11) (gl σ a) _).setSlot _ _) = some (vp_cell (cA d 11) (gl σ a, .inr (.inl (aj (wj σ a i.toNatClampNeg x) a))))
    rw [arrV_store, wj_at, vp_cell_l]
    refine congrArg (fun z => some (arrV (cA d 11) (gl σ a) z)) ?_
    funext q
    by_cases hq : q = i.toNatClampNeg
    · subst hq
      simp [updV, vp_updL, va_rf]
    · simp [updV, vp_updL, hq]
theorem r_aastT (E : Ev p s m args meth c own cc nL ret d A) {a v : Nat} {o o2 : Option Nat} {i : Int32} (hd : decode cc pc = .ok (.aastore, 1)) (ho : o = some a) (hg : gc σ a = 12) (hi : vp_in i (gl σ a)) (ho2 : o2 = some v) (hgv : gc σ v = 7) (kk : Gk p l e R s m args below meth c d A Q nL (wp σ a i.toNatClampNeg o2) k n (pc + 1) lv st) : Gk p l e R s m args below meth c d A Q nL σ k n pc lv (va_rf o2 :: .int i :: va_rf o :: st) := fun H locs ls hH hS hP hl => by
  subst ho
  subst ho2
  have h1 := hH.arr (a := a) (by omega)
  rw [hg] at h1
  have h0 : ¬ i < 0 := fun q => hi (Or.inl q)
  have hlt : i.toNatClampNeg < gl σ a := Nat.not_le.mp fun q => hi (Or.inr q)
  have hcls := (E.K.1.1 6 _ rfl).2
  obtain ⟨kA, comp, k1, k2, k3, -⟩ := (E.K.1.2 2 _ rfl).2
  have hcomp : comp = d.1.1 6 := Option.some.inj (k3.symm.trans hcls.1)
  subst hcomp
  obtain ⟨kC, hkC, -⟩ := hcls.2
  have hkV := hkC
  obtain ⟨r', hr', cellV, g1, g2, g3, -⟩ := (hH.2 v (by omega)).2.1 6 hgv (by omega)
  have hasg : s.vm.assignable cellV.cls (d.1.1 6) = true := by rw [g2]; exact va_assign hcls
  refine W.aast E.x E.b h1 (fun q h => by cases h) (fun h => by cases h) k1 k2 rfl hkC ⟨h0, by show _ < (arrV _ _ _).slots.size; rw [arrV_size]; exact hlt⟩ g1 (fun q h => by rw [g3] at h; cases h) (by rw [g2]; exact hkV) hasg rfl rfl hd fun H' e1 e2 e3 => ?_
  refine kk H' _ ls ?_ (hS.put e2 e3 (hP a (by omega) (by omega))) (fun b h3 h4 => hP b h3 h4) hl
  refine hH.up (a := a) rfl rfl e2 e3 (fun _ _ _ => rfl) (fun b hb c => ac_wp hb c) ⟨fun ci2 hc2 hci2 => ?_, fun hc2 => ?_⟩
  · have hc3 : gc σ a = ci2 + 1 := hc2
    omega
  · show H'[a]? = some (vp_cell (cA d (gc σ a)) (ac (gc σ a) (wp σ a i.toNatClampNeg (some v)) a))
    rw [hg, e1]
    show some ((arrV (cA d 12) (gl σ a) _).setSlot _ _) = some (vp_cell (cA d 12) (gl σ a, .inr (.inr (.inr (.inr (ap (wp σ a i.toNatClampNeg (some v)) a))))))
    rw [arrV_store, wp_at, vp_cell_q]
    refine congrArg (fun z => some (arrV (cA d 12) (gl σ a) z)) ?_
    funext q
    by_cases hq : q = i.toNatClampNeg
    · subst hq
      simp [updV, va_up, va_rf]
    · simp [updV, va_up, hq]
theorem r_aastNT (E : Ev p s m args meth c own cc nL ret d A) {a : Nat} {o o2 : Option Nat} {i : Int32} (hd : decode cc pc = .ok (.aastore, 1)) (ho : o = some a) (hg : gc σ a = 12) (hi : vp_in i (gl σ a)) (ho2 : o2 = none) (kk : Gk p l e R s m args below meth c d A Q nL (wp σ a i.toNatClampNeg o2) k n (pc + 1) lv st) : Gk p l e R s m args below meth c d A Q nL σ k n pc lv (va_rf o2 :: .int i :: va_rf o :: st) := fun H locs ls hH hS hP hl => by
  subst ho
  subst ho2
  have h1 := hH.arr (a := a) (by omega)
  rw [hg] at h1
  refine va_WaastN (C := "FrameTalk$Thing") E.x E.b h1 ((E.K.1.2 2 _ rfl).1 (gl σ a) (fun j => va_rf (ap σ a j))) (fun h => by cases h) (by show ¬ (i < 0 ∨ (arrV _ _ _).slots.size ≤ _); rw [arrV_size]; exact hi) rfl rfl hd fun H' e1 e2 e3 => ?_
  refine kk H' _ ls ?_ (hS.put e2 e3 (hP a (by omega) (by omega))) (fun b h3 h4 => hP b h3 h4) hl
  refine hH.up (a := a) rfl rfl e2 e3 (fun _ _ _ => rfl) (fun b hb c => ac_wp hb c) ⟨fun ci2 hc2 hci2 => ?_, fun hc2 => ?_⟩
  · have hc3 : gc σ a = ci2 + 1 := hc2
    omega
  · show H'[a]? = some (vp_cell (cA d (gc σ a)) (ac (gc σ a) (wp σ a i.toNatClampNeg none) a))
    rw [hg, e1]
    show some ((arrV (cA d 12) (gl σ a) _).setSlot _ _) = some (vp_cell (cA d 12) (gl σ a, .inr (.inr (.inr (.inr (ap (wp σ a i.toNatClampNeg none) a))))))
    rw [arrV_store, wp_at, vp_cell_q]
    refine congrArg (fun z => some (arrV (cA d 12) (gl σ a) z)) ?_
    funext q
    by_cases hq : q = i.toNatClampNeg
    · subst hq
      simp [updV, va_up, va_rf]
    · simp [updV, va_up, hq]
theorem r_aastO (E : Ev p s m args meth c own cc nL ret d A) {a v : Nat} {o o2 : Option Nat} {i : Int32} (hd : decode cc pc = .ok (.aastore, 1)) (ho : o = some a) (hg : gc σ a = 13) (hi : vp_in i (gl σ a)) (ho2 : o2 = some v) (hgv : gc σ v = 5) (hob : ∀ comp : ClassId, s.vm.findClass "java/lang/Object" = some comp → ∃ kC : Class, s.vm.classes[comp]? = some kC) (kk : Gk p l e R s m args below meth c d A Q nL (wp σ a i.toNatClampNeg o2) k n (pc + 1) lv st) : Gk p l e R s m args below meth c d A Q nL σ k n pc lv (va_rf o2 :: .int i :: va_rf o :: st) := fun H locs ls hH hS hP hl => by
  subst ho
  subst ho2
  have h1 := hH.arr (a := a) (by omega)
  rw [hg] at h1
  have h0 : ¬ i < 0 := fun q => hi (Or.inl q)
  have hlt : i.toNatClampNeg < gl σ a := Nat.not_le.mp fun q => hi (Or.inr q)
  have hcls := (E.K.1.1 4 _ rfl).2
  obtain ⟨kA, comp, k1, k2, k3, -⟩ := (E.K.1.2 3 _ rfl).2
  obtain ⟨kV, hkV, -⟩ := hcls.2
  obtain ⟨c0, t0, f1, f2, f3⟩ := Cond.castable_spec (va_Nw.use (A := args) rfl E.K.2.2.2.2.2.2.2)
  have e7 : c0 = d.1.1 4 := Option.some.inj (f1.symm.trans hcls.1)
  have e8 : t0 = comp := Option.some.inj (f2.symm.trans k3)
  subst e7
  subst e8
  obtain ⟨r', hr', cellV, g1, g2, g3, -⟩ := (hH.2 v (by omega)).2.1 4 hgv (by omega)
  have hasg : s.vm.assignable cellV.cls t0 = true := by rw [g2]; exact f3
  obtain ⟨kC, hkC⟩ : ∃ kC : Class, s.vm.classes[t0]? = some kC := hob _ k3
  refine W.aast E.x E.b h1 (fun q h => by cases h) (fun h => by cases h) k1 k2 rfl hkC ⟨h0, by show _ < (arrV _ _ _).slots.size; rw [arrV_size]; exact hlt⟩ g1 (fun q h => by rw [g3] at h; cases h) (by rw [g2]; exact hkV) hasg rfl rfl hd fun H' e1 e2 e3 => ?_
  refine kk H' _ ls ?_ (hS.put e2 e3 (hP a (by omega) (by omega))) (fun b h3 h4 => hP b h3 h4) hl
  refine hH.up (a := a) rfl rfl e2 e3 (fun _ _ _ => rfl) (fun b hb c => ac_wp hb c) ⟨fun ci2 hc2 hci2 => ?_, fun hc2 => ?_⟩
  · have hc3 : gc σ a = ci2 + 1 := hc2
    omega
  · show H'[a]? = some (vp_cell (cA d (gc σ a)) (ac (gc σ a) (wp σ a i.toNatClampNeg (some v)) a))
    rw [hg, e1]
    show some ((arrV (cA d 13) (gl σ a) _).setSlot _ _) = some (vp_cell (cA d 13) (gl σ a, .inr (.inr (.inr (.inr (ap (wp σ a i.toNatClampNeg (some v)) a))))))
    rw [arrV_store, wp_at, vp_cell_q]
    refine congrArg (fun z => some (arrV (cA d 13) (gl σ a) z)) ?_
    funext q
    by_cases hq : q = i.toNatClampNeg
    · subst hq
      simp [updV, va_up, va_rf]
    · simp [updV, va_up, hq]
theorem r_aastNO (E : Ev p s m args meth c own cc nL ret d A) {a : Nat} {o o2 : Option Nat} {i : Int32} (hd : decode cc pc = .ok (.aastore, 1)) (ho : o = some a) (hg : gc σ a = 13) (hi : vp_in i (gl σ a)) (ho2 : o2 = none) (kk : Gk p l e R s m args below meth c d A Q nL (wp σ a i.toNatClampNeg o2) k n (pc + 1) lv st) : Gk p l e R s m args below meth c d A Q nL σ k n pc lv (va_rf o2 :: .int i :: va_rf o :: st) := fun H locs ls hH hS hP hl => by
  subst ho
  subst ho2
  have h1 := hH.arr (a := a) (by omega)
  rw [hg] at h1
  refine va_WaastN (C := "java/lang/Object") E.x E.b h1 ((E.K.1.2 3 _ rfl).1 (gl σ a) (fun j => va_rf (ap σ a j))) (fun h => by cases h) (by show ¬ (i < 0 ∨ (arrV _ _ _).slots.size ≤ _); rw [arrV_size]; exact hi) rfl rfl hd fun H' e1 e2 e3 => ?_
  refine kk H' _ ls ?_ (hS.put e2 e3 (hP a (by omega) (by omega))) (fun b h3 h4 => hP b h3 h4) hl
  refine hH.up (a := a) rfl rfl e2 e3 (fun _ _ _ => rfl) (fun b hb c => ac_wp hb c) ⟨fun ci2 hc2 hci2 => ?_, fun hc2 => ?_⟩
  · have hc3 : gc σ a = ci2 + 1 := hc2
    omega
  · show H'[a]? = some (vp_cell (cA d (gc σ a)) (ac (gc σ a) (wp σ a i.toNatClampNeg none) a))
    rw [hg, e1]
    show some ((arrV (cA d 13) (gl σ a) _).setSlot _ _) = some (vp_cell (cA d 13) (gl σ a, .inr (.inr (.inr (.inr (ap (wp σ a i.toNatClampNeg none) a))))))
    rw [arrV_store, wp_at, vp_cell_q]
    refine congrArg (fun z => some (arrV (cA d 13) (gl σ a) z)) ?_
    funext q
    by_cases hq : q = i.toNatClampNeg
    · subst hq
      simp [updV, va_up, va_rf]
    · simp [updV, va_up, hq]
theorem r_newaI (E : Ev p s m args meth c own cc nL ret d A) {i : Int32} (hd : decode cc pc = .ok (.newarray .int, 2)) (w1 : Cond.arrayClass (newarray.typeOf .int) ∈ wsL_law) (hn : ¬ i < 0) (hb : i.toNatClampNeg * componentBytes (newarray.typeOf .int) ≤ 536870912) (hR : k + 1 ≤ R.cells ∧ n + i.toNatClampNeg ≤ R.slots) (kk : Gk p l e R s m args below meth c d A Q nL (na σ 10 i.toNatClampNeg) (k + 1) (n + i.toNatClampNeg) (pc + 2) lv (va_rf (some (hs σ)) :: st)) : Gk p l e R s m args below meth c d A Q nL σ k n pc lv (.int i :: st) := fun H locs ls hH hS hP hl => by
  refine va_newaK E.x E.b (E.ts _ w1) rfl hd rfl hn rfl hb hR.1 hR.2 rfl fun H1 cA1 e1 z1 o1 hAr hNm => ?_
  have hcA : cA d 10 = cA1 := Option.some.inj ((E.K.1.2 0 _ rfl).2.symm.trans hNm)
  have hgs : gc (na σ 10 i.toNatClampNeg) (hs σ) = 10 := by show (if hs σ = hs σ then 10 else gc σ (hs σ)) = _; simp
  have hk := kk H1 locs ls ?_ ⟨Nat.le_trans hS.1 (by omega), fun x h1 h2 => (o1 x (Nat.lt_of_lt_of_le h1 hS.1)).trans (hS.2.1 x h1 h2), hS.2.2⟩ ?_ hl
  · rw [← hH.1] at hk
    exact hk
  · refine hH.grow rfl rfl z1 o1 (fun _ _ _ => rfl) (fun b hb c => ac_na hb c) ⟨fun ci2 hc2 hci2 => ?_, fun hc2 => ?_⟩
    · rw [hgs] at hc2
      omega
    · rw [hgs, ← hH.1, e1]
      have f0 : gl (na σ 10 i.toNatClampNeg) H.size = i.toNatClampNeg := by show (if H.size = hs σ then i.toNatClampNeg else gl σ H.size) = _; simp [hH.1]
      have f1 : ai (na σ 10 i.toNatClampNeg) H.size = (fun _ => (0 : Int32)) := by show (if H.size = hs σ then (fun _ => (0 : Int32)) else ai σ H.size) = _; simp [hH.1]
      show _ = some (vp_cell (cA d 10) (gl (na σ 10 i.toNatClampNeg) H.size, .inl (ai (na σ 10 i.toNatClampNeg) H.size)))
      rw [f0, f1, hcA]
      rfl
  · intro b hb1 hb2
    by_cases hba : b = hs σ
    · subst hba
      exact E.fr _ (by rw [← hH.1]; exact hS.1)
    · have hgb : gc (na σ 10 i.toNatClampNeg) b = gc σ b := by show (if b = hs σ then 10 else gc σ b) = _; simp [hba]
      exact hP b (by rw [← hgb]; exact hb1) (by rw [← hgb]; exact hb2)
theorem r_newaJ (E : Ev p s m args meth c own cc nL ret d A) {i : Int32} (hd : decode cc pc = .ok (.newarray .long, 2)) (w1 : Cond.arrayClass (newarray.typeOf .long) ∈ wsL_law) (hn : ¬ i < 0) (hb : i.toNatClampNeg * componentBytes (newarray.typeOf .long) ≤ 536870912) (hR : k + 1 ≤ R.cells ∧ n + i.toNatClampNeg ≤ R.slots) (kk : Gk p l e R s m args below meth c d A Q nL (na σ 11 i.toNatClampNeg) (k + 1) (n + i.toNatClampNeg) (pc + 2) lv (va_rf (some (hs σ)) :: st)) : Gk p l e R s m args below meth c d A Q nL σ k n pc lv (.int i :: st) := fun H locs ls hH hS hP hl => by
  refine va_newaK E.x E.b (E.ts _ w1) rfl hd rfl hn rfl hb hR.1 hR.2 rfl fun H1 cA1 e1 z1 o1 hAr hNm => ?_
  have hcA : cA d 11 = cA1 := Option.some.inj ((E.K.1.2 1 _ rfl).2.symm.trans hNm)
  have hgs : gc (na σ 11 i.toNatClampNeg) (hs σ) = 11 := by show (if hs σ = hs σ then 11 else gc σ (hs σ)) = _; simp
  have hk := kk H1 locs ls ?_ ⟨Nat.le_trans hS.1 (by omega), fun x h1 h2 => (o1 x (Nat.lt_of_lt_of_le h1 hS.1)).trans (hS.2.1 x h1 h2), hS.2.2⟩ ?_ hl
  · rw [← hH.1] at hk
    exact hk
  · refine hH.grow rfl rfl z1 o1 (fun _ _ _ => rfl) (fun b hb c => ac_na hb c) ⟨fun ci2 hc2 hci2 => ?_, fun hc2 => ?_⟩
    · rw [hgs] at hc2
      omega
    · rw [hgs, ← hH.1, e1]
      have f0 : gl (na σ 11 i.toNatClampNeg) H.size = i.toNatClampNeg := by show (if H.size = hs σ then i.toNatClampNeg else gl σ H.size) = _; simp [hH.1]
      have f1 : aj (na σ 11 i.toNatClampNeg) H.size = (fun _ => (0 : Int64)) := by show (if H.size = hs σ then (fun _ => (0 : Int64)) else aj σ H.size) = _; simp [hH.1]
      show _ = some (vp_cell (cA d 11) (gl (na σ 11 i.toNatClampNeg) H.size, .inr (.inl (aj (na σ 11 i.toNatClampNeg) H.size))))
      rw [f0, f1, hcA]
      rfl
  · intro b hb1 hb2
    by_cases hba : b = hs σ
    · subst hba
      exact E.fr _ (by rw [← hH.1]; exact hS.1)
    · have hgb : gc (na σ 11 i.toNatClampNeg) b = gc σ b := by show (if b = hs σ then 11 else gc σ b) = _; simp [hba]
      exact hP b (by rw [← hgb]; exact hb1) (by rw [← hgb]; exact hb2)
theorem r_anewT (E : Ev p s m args meth c own cc nL ret d A) {i : Int32} {ix : Nat} (hd : decode cc pc = .ok (.anewarray ix, 3)) (w1 : Cond.classLink own ix "FrameTalk$Thing" ∈ wsL_law) (hn : ¬ i < 0) (hb : i.toNatClampNeg * 4 ≤ 536870912) (hR : k + 1 ≤ R.cells ∧ n + i.toNatClampNeg ≤ R.slots) (kk : Gk p l e R s m args below meth c d A Q nL (na σ 12 i.toNatClampNeg) (k + 1) (n + i.toNatClampNeg) (pc + 3) lv (va_rf (some (hs σ)) :: st)) : Gk p l e R s m args below meth c d A Q nL σ k n pc lv (.int i :: st) := fun H locs ls hH hS hP hl => by
  refine W.anew E.x E.b E.ow (E.ts _ w1) (va_AO.use E.K.2.2.2.2.2.1) rfl hd rfl hn hb hR.1 hR.2 fun cA1 kA comp f1 f2 f3 f4 => ?_
  generalize hH1 : H.push ({ cls := cA1, slots := Array.replicate i.toNatClampNeg .null, vm := .none } : Cell) = H1
  have z1 : H1.size = H.size + 1 := by rw [← hH1, Array.size_push]
  have e1 : H1[H.size]? = some (arrV cA1 i.toNatClampNeg (fun _ => .null)) := by rw [← hH1, Array.getElem?_push_size, ← arrV_new]
  have o1 : ∀ q : Nat, q < H.size → H1[q]? = H[q]? := fun q hq => by rw [← hH1, Array.getElem?_push, if_neg (Nat.ne_of_lt hq)]
  have hcA : cA d 12 = cA1 := by
    obtain ⟨-, -, -, -, -, h4⟩ := (E.K.1.2 2 _ rfl).2
    exact Option.some.inj (h4.symm.trans f1)
  have hgs : gc (na σ 12 i.toNatClampNeg) (hs σ) = 12 := by show (if hs σ = hs σ then 12 else gc σ (hs σ)) = _; simp
  have hk := kk H1 locs ls ?_ ⟨Nat.le_trans hS.1 (by omega), fun x h1 h2 => (o1 x (Nat.lt_of_lt_of_le h1 hS.1)).trans (hS.2.1 x h1 h2), hS.2.2⟩ ?_ hl
  · rw [← hH.1] at hk
    exact hk
  · refine hH.grow rfl rfl z1 o1 (fun _ _ _ => rfl) (fun b hb c => ac_na hb c) ⟨fun ci2 hc2 hci2 => ?_, fun hc2 => ?_⟩
    · rw [hgs] at hc2
      omega
    · rw [hgs, ← hH.1, e1]
      have f0 : gl (na σ 12 i.toNatClampNeg) H.size = i.toNatClampNeg := by show (if H.size = hs σ then i.toNatClampNeg else gl σ H.size) = _; simp [hH.1]
      have f1 : ap (na σ 12 i.toNatClampNeg) H.size = (fun _ => (none : Option Nat)) := by show (if H.size = hs σ then (fun _ => (none : Option Nat)) else ap σ H.size) = _; simp [hH.1]
      show _ = some (vp_cell (cA d 12) (gl (na σ 12 i.toNatClampNeg) H.size, .inr (.inr (.inr (.inr (ap (na σ 12 i.toNatClampNeg) H.size))))))
      rw [f0, f1, hcA]
      rfl
  · intro b hb1 hb2
    by_cases hba : b = hs σ
    · subst hba
      exact E.fr _ (by rw [← hH.1]; exact hS.1)
    · have hgb : gc (na σ 12 i.toNatClampNeg) b = gc σ b := by show (if b = hs σ then 12 else gc σ b) = _; simp [hba]
      exact hP b (by rw [← hgb]; exact hb1) (by rw [← hgb]; exact hb2)
theorem r_anewO (E : Ev p s m args meth c own cc nL ret d A) {i : Int32} {ix : Nat} (hd : decode cc pc = .ok (.anewarray ix, 3)) (w1 : Cond.classLink own ix "java/lang/Object" ∈ wsL_law) (hn : ¬ i < 0) (hb : i.toNatClampNeg * 4 ≤ 536870912) (hR : k + 1 ≤ R.cells ∧ n + i.toNatClampNeg ≤ R.slots) (kk : Gk p l e R s m args below meth c d A Q nL (na σ 13 i.toNatClampNeg) (k + 1) (n + i.toNatClampNeg) (pc + 3) lv (va_rf (some (hs σ)) :: st)) : Gk p l e R s m args below meth c d A Q nL σ k n pc lv (.int i :: st) := fun H locs ls hH hS hP hl => by
  refine W.anew E.x E.b E.ow (E.ts _ w1) (va_AO.use E.K.2.2.2.2.2.2.1) rfl hd rfl hn hb hR.1 hR.2 fun cA1 kA comp f1 f2 f3 f4 => ?_
  generalize hH1 : H.push ({ cls := cA1, slots := Array.replicate i.toNatClampNeg .null, vm := .none } : Cell) = H1
  have z1 : H1.size = H.size + 1 := by rw [← hH1, Array.size_push]
  have e1 : H1[H.size]? = some (arrV cA1 i.toNatClampNeg (fun _ => .null)) := by rw [← hH1, Array.getElem?_push_size, ← arrV_new]
  have o1 : ∀ q : Nat, q < H.size → H1[q]? = H[q]? := fun q hq => by rw [← hH1, Array.getElem?_push, if_neg (Nat.ne_of_lt hq)]
  have hcA : cA d 13 = cA1 := by
    obtain ⟨-, -, -, -, -, h4⟩ := (E.K.1.2 3 _ rfl).2
    exact Option.some.inj (h4.symm.trans f1)
  have hgs : gc (na σ 13 i.toNatClampNeg) (hs σ) = 13 := by show (if hs σ = hs σ then 13 else gc σ (hs σ)) = _; simp
  have hk := kk H1 locs ls ?_ ⟨Nat.le_trans hS.1 (by omega), fun x h1 h2 => (o1 x (Nat.lt_of_lt_of_le h1 hS.1)).trans (hS.2.1 x h1 h2), hS.2.2⟩ ?_ hl
  · rw [← hH.1] at hk
    exact hk
  · refine hH.grow rfl rfl z1 o1 (fun _ _ _ => rfl) (fun b hb c => ac_na hb c) ⟨fun ci2 hc2 hci2 => ?_, fun hc2 => ?_⟩
    · rw [hgs] at hc2
      omega
    · rw [hgs, ← hH.1, e1]
      have f0 : gl (na σ 13 i.toNatClampNeg) H.size = i.toNatClampNeg := by show (if H.size = hs σ then i.toNatClampNeg else gl σ H.size) = _; simp [hH.1]
      have f1 : ap (na σ 13 i.toNatClampNeg) H.size = (fun _ => (none : Option Nat)) := by show (if H.size = hs σ then (fun _ => (none : Option Nat)) else ap σ H.size) = _; simp [hH.1]
      show _ = some (vp_cell (cA d 13) (gl (na σ 13 i.toNatClampNeg) H.size, .inr (.inr (.inr (.inr (ap (na σ 13 i.toNatClampNeg) H.size))))))
      rw [f0, f1, hcA]
      rfl
  · intro b hb1 hb2
    by_cases hba : b = hs σ
    · subst hba
      exact E.fr _ (by rw [← hH.1]; exact hS.1)
    · have hgb : gc (na σ 13 i.toNatClampNeg) b = gc σ b := by show (if b = hs σ then 13 else gc σ b) = _; simp [hba]
      exact hP b (by rw [← hgb]; exact hb1) (by rw [← hgb]; exact hb2)
theorem r_cast (E : Ev p s m args meth c own cc nL ret d A) {ci ix a N : Nat} {C : String} {T : u_T} {o : Option Nat} (hd : decode cc pc = .ok (.checkcast ix, 3)) (w1 : Cond.classLink own ix C ∈ wsL_law) (hc : vwCl[ci]? = some (C, T, N)) (hci : ci < 9) (ho : o = some a) (hg : gc σ a = ci + 1) (kk : Gk p l e R s m args below meth c d A Q nL σ k n (pc + 3) lv (va_rf o :: st)) : Gk p l e R s m args below meth c d A Q nL σ k n pc lv (va_rf o :: st) := fun H locs ls hH hS hP hl => by
  subst ho
  exact va_castS E.x E.b E.ow (E.ts _ w1) (E.K.1.1 ci _ hc).2 (va_recv E.K.1 (p1 ((hH.2 a (by omega)).2.1 ci hg hci)) hc (q0 := 0) rfl) hd (kk H locs ls hH hS hP hl)
theorem r_castN (E : Ev p s m args meth c own cc nL ret d A) {ix : Nat} {o : Option Nat} (hd : decode cc pc = .ok (.checkcast ix, 3)) (ho : o = none) (kk : Gk p l e R s m args below meth c d A Q nL σ k n (pc + 3) lv (va_rf o :: st)) : Gk p l e R s m args below meth c d A Q nL σ k n pc lv (va_rf o :: st) := fun H locs ls hH hS hP hl => by
  subst ho
  exact lv_castN E.x E.b hd (kk H locs ls hH hS hP hl)
theorem r_gets (E : Ev p s m args meth c own cc nL ret d A) {ix : Nat} (hd : decode cc pc = .ok (.getstatic ix, 3)) (w1 : Cond.fieldLink own ix "java/util/ArrayList" "DEFAULTCAPACITY_EMPTY_ELEMENTDATA" "[Ljava/lang/Object;" ∈ wsL_law) (kk : Gk p l e R s m args below meth c d A Q nL σ k n (pc + 3) lv (va_rf (some (dfl d)) :: st)) : Gk p l e R s m args below meth c d A Q nL σ k n pc lv st := fun H locs ls hH hS hP hl =>
  va_gets E.x E.b E.Z hS E.ow (E.ts _ w1) (fun _ h => h) hd (kk H locs ls hH hS hP hl)
theorem r_objInit (E : Ev p s m args meth c own cc nL ret d A) {ix : Nat} {o : Option Nat} {a : Nat} (hd : decode cc pc = .ok (.invokespecial ix, 3)) (w1 : Cond.methodLink own ix Lib.objectInit ∈ wsL_law) (w2 : Cond.instanceMethod Lib.objectInit ∈ wsL_law) (w3 : Cond.code Lib.objectInit ⟨#[0xb1]⟩ 1 none ∈ wsL_law) (ho : o = some a) (hR : 1 ≤ R.frames ∧ (st.map fun v => v.category).sum + 12 ≤ R.locals) (kk : Gk p l e R s m args below meth c d A Q nL σ k n (pc + 3) lv st) : Gk p l e R s m args below meth c d A Q nL σ k n pc lv (va_rf o :: st) := fun H locs ls hH hS hP hl => by
  subst ho
  exact W.objInit E.x E.b E.ow (E.ts _ w1) (E.ts _ w2) (E.ts _ w3) rfl (by rw [E.ml]; exact hl.1) rfl hd hR.1 (by show 2 * 0 + _ + 12 ≤ _; omega) (kk H locs ls hH hS hP hl)
def QQ (d : Dp) (σ0 : Sg) (r : Option Value) (σ' : Sg) : Array Value → State → Outcome → State → Prop := fun _ st oc t => oc = .returned r ∧ HW d σ' t.heap ∧ PA (AA σ0) σ' ∧ va_F (AA σ0) st t
def PP (d : Dp) (σ : Sg) (As : List Value) : Array Value → State → Prop := va_Pc As (fun U => HW d σ U.heap ∧ KU d U ∧ ZU d (AA σ) U U.heap)
/-- THE CONTRACT: from any heap that holds σ the method returns r, the heap then holds σ', k cells of n slots are new -/
def Mt (l : Launch) (d : Dp) (y : MethodName) (cc : ByteArray) (maxL : Nat) (ret : Option FieldType) (fr lo : Nat) (σ : Sg) (As : List Value) (r : Option Value) (σ' : Sg) (k n : Nat) : Prop :=
  Met l y (Cond.code y cc maxL ret :: wsL_law) { frames := fr, cells := k, slots := n, locals := lo } (PP d σ As) (QQ d σ r σ') k n (AA σ)
theorem PP.blind {As : List Value} : FrameBlind (PP d σ As) := fun a U g mk h => ⟨h.1, h.2.1, h.2.2.1.same rfl, h.2.2.2.moved (Vm.Alike.refl U.vm)⟩
theorem AAA {H : Heap} {locs : List Loc} (hA : ∀ q, s.heap.size ≤ q → A q) (hH : HW d σ H) (hS : va_S A s.heap H locs) (hP : PA A σ) : ∀ q, AA σ q → A q := fun q h => by
  rcases h with h | h
  · exact hP q h.1 h.2
  · exact hA q (Nat.le_trans hS.1 (by rw [hH.1]; exact h))
theorem PP.of (E : Ev p s m args meth c own cc nL ret d A) {H : Heap} {locs : List Loc} (hH : HW d σ H) (hS : va_S A s.heap H locs) (hP : PA A σ) {As : List Value} (U : State) (hU : U.heap = H) (hW : s.WarmedH U.vm) : PP d σ As As.toArray U :=
  ⟨rfl, by rw [hU]; exact hH, E.K.warm hW, by rw [hU]; exact ((E.Z.kept hS.2.1).narrow (AAA E.fr hH hS hP)).moved hW.alike⟩
theorem r_call (E : Ev p s m args meth c own cc nL ret d A) {k1 n1 : Nat} {r : Option Value} {σ1 : Sg} {rest : List Value} {a : Array Value} (run : ∀ (H : Heap) (locs : List Loc) (ls : Array Slot), HW d σ H → va_S A s.heap H locs → PA A σ → lv_has ls nL lv → va_Run p l e R s m args below meth c H locs k n k1 n1 (F0 m pc ls st) rest (QQ d σ r σ1 a) (AA σ)) (kk : Gk p l e R s m args below meth c d A Q nL σ1 (k + k1) (n + n1) (pc + 3) lv (r.toList ++ rest)) : Gk p l e R s m args below meth c d A Q nL σ k n pc lv st := by
  intro H locs ls hH hS hP hl T hT X
  obtain ⟨v, st₀, t, T', L, h0, X', hL, e1, e2, ⟨hv, hH1, hP1, hz, hk⟩, stp⟩ := run H locs ls hH hS hP hl T hT X
  cases hv
  rw [h0] at hz hk
  have hAA := AAA E.fr hH hS hP
  obtain ⟨t2, a1, b1⟩ := kk T'.heap (locs ++ L) ls (by rw [e1]; exact hH1) ⟨Nat.le_trans hS.1 (by rw [e1]; exact hz), fun q h1 h2 => by rw [e1, hk q (Nat.lt_of_lt_of_le h1 hS.1) (fun z => h2 (hAA q z))]; exact hS.2.1 q h1 h2, fun q hq => by
    rcases List.mem_append.mp hq with h | h
    · exact hS.2.2 q h
    · exact hAA _ (hL q h)⟩ (fun b h1 h2 => hAA b (hP1 b h1 h2)) hl T' rfl X'
  exact ⟨t2, stp t2 a1, b1⟩
theorem gdC {y : MethodName} {ccy : ByteArray} {maxL : Nat} {rt : Option FieldType} (w5 : Cond.code y ccy maxL rt ∈ wsL_law) {ex : List Cond} (hex : ∀ w ∈ ex, w ∈ wsL_law) : GoodIn wsL_law (ex ++ (Cond.code y ccy maxL rt :: wsL_law)) := fun w hw => by
  have hm : w ∈ wsL_law := by
    rcases List.mem_append.mp hw with h | h
    · exact hex w h
    · rcases List.mem_cons.mp h with h | h
      · rw [h]; exact w5
      · exact h
  exact ⟨hm, good_of_word (List.all_eq_true.mp gdL w hm)⟩
theorem r_cV (E : Ev p s m args meth c own cc nL ret d A) {ix fr lo k1 n1 maxL nA : Nat} {y : MethodName} {ccy : ByteArray} {rt : Option FieldType} {As rest : List Value} {r : Option Value} {σ1 : Sg} {ci N b : Nat} {C : String} {T : u_T} {o : Option Nat} (hM : Mt l d y ccy maxL rt fr lo σ (.ref b :: As) r σ1 k1 n1) (hd : decode cc pc = .ok (.invokevirtual ix, 3)) (w1 : Cond.methodLink own ix y ∈ wsL_law) (w2 : Cond.instanceMethod y ∈ wsL_law) (w3 : Cond.selects C y y ∈ wsL_law) (w4 : Cond.initialized C ∈ wsL_law) (w5 : Cond.code y ccy maxL rt ∈ wsL_law) (hyc : y.cls = C) (hy : y.cls ≠ "java/lang/invoke/MethodHandle" ∧ y.cls ≠ "java/lang/invoke/VarHandle" ∧ (parseMethodDescriptor y.desc).map (fun d => d.parameters.length) = some nA) (hna : As.length = nA) (hR : fr + 1 ≤ R.frames ∧ 8 + (maxL + 11) + lo ≤ R.locals) (hf : k + k1 ≤ R.cells ∧ n + n1 ≤ R.slots) (hc : vwCl[ci]? = some (C, T, N)) (hci : ci < 9) (ho : o = some b) (hg : gc σ b = ci + 1) (hst : st = As.reverse ++ va_rf o :: rest) (hcat : (rest.map fun v => v.category).sum ≤ 8) (kk : Gk p l e R s m args below meth c d A Q nL σ1 (k + k1) (n + n1) (pc + 3) lv (r.toList ++ rest)) : Gk p l e R s m args below meth c d A Q nL σ k n pc lv st := by
  subst ho
  refine r_call E (a := (Value.ref b :: As).toArray) (fun H locs ls hH hS hP hl => ?_) kk
  refine va_runV (As := As) (rest := rest) ⟨E.x, E.b, E.ml, E.ow, E.ts⟩ hM (cwV nA E.ts (gdC w5 (ex := [.methodLink own ix y, .instanceMethod y, .selects C y y, .initialized C]) ?_) rfl rfl rfl ⟨hyc, hy⟩ hR) ⟨PP.blind, va_recv E.K.1 (p1 ((hH.2 b (by omega)).2.1 ci hg hci)) hc (q0 := 0) rfl, fun U hU hW => PP.of E hH hS hP U hU hW⟩ rfl hna hl.1 hst (lv_room hcat) hd hf
  intro w hw
  simp only [List.mem_cons, List.not_mem_nil, or_false] at hw
  rcases hw with rfl | rfl | rfl | rfl <;> assumption
theorem r_cS (E : Ev p s m args meth c own cc nL ret d A) {ix fr lo k1 n1 maxL nA : Nat} {y : MethodName} {ccy : ByteArray} {rt : Option FieldType} {As rest : List Value} {r : Option Value} {σ1 : Sg} (hM : Mt l d y ccy maxL rt fr lo σ As r σ1 k1 n1) (hd : decode cc pc = .ok (.invokestatic ix, 3)) (w1 : Cond.methodLink own ix y ∈ wsL_law) (w2 : Cond.static y ∈ wsL_law) (w4 : Cond.initialized y.cls ∈ wsL_law) (w5 : Cond.code y ccy maxL rt ∈ wsL_law) (hy : y.cls ≠ "java/lang/invoke/MethodHandle" ∧ y.cls ≠ "java/lang/invoke/VarHandle" ∧ (parseMethodDescriptor y.desc).map (fun d => d.parameters.length) = some nA) (hna : As.length = nA) (hR : fr + 1 ≤ R.frames ∧ 8 + (maxL + 11) + lo ≤ R.locals) (hf : k + k1 ≤ R.cells ∧ n + n1 ≤ R.slots) (hst : st = As.reverse ++ rest) (hcat : (rest.map fun v => v.category).sum ≤ 8) (kk : Gk p l e R s m args below meth c d A Q nL σ1 (k + k1) (n + n1) (pc + 3) lv (r.toList ++ rest)) : Gk p l e R s m args below meth c d A Q nL σ k n pc lv st := by
  refine r_call E (a := As.toArray) (fun H locs ls hH hS hP hl => ?_) kk
  refine va_runS (As := As) (rest := rest) ⟨E.x, E.b, E.ml, E.ow, E.ts⟩ hM (va_cwS nA E.ts (gdC w5 (ex := [.methodLink own ix y, .static y, .initialized y.cls]) ?_) rfl rfl rfl hy hR) ⟨PP.blind, fun U hU hW => PP.of E hH hS hP U hU hW⟩ rfl hna hl.1 hst (lv_room hcat) hd hf
  intro w hw
  simp only [List.mem_cons, List.not_mem_nil, or_false] at hw
  rcases hw with rfl | rfl | rfl <;> assumption
theorem r_cI (E : Ev p s m args meth c own cc nL ret d A) {ix fr lo k1 n1 maxL nA : Nat} {y : MethodName} {ccy : ByteArray} {As rest : List Value} {r : Option Value} {σ1 : Sg} {b : Nat} {o : Option Nat} (hM : Mt l d y ccy maxL none fr lo σ (.ref b :: As) r σ1 k1 n1) (hd : decode cc pc = .ok (.invokespecial ix, 3)) (w1 : Cond.methodLink own ix y ∈ wsL_law) (w2 : Cond.instanceMethod y ∈ wsL_law) (w4 : Cond.initialized y.cls ∈ wsL_law) (w5 : Cond.code y ccy maxL none ∈ wsL_law) (hyn : y.name = "<init>") (hy : y.cls ≠ "java/lang/invoke/MethodHandle" ∧ y.cls ≠ "java/lang/invoke/VarHandle" ∧ (parseMethodDescriptor y.desc).map (fun d => d.parameters.length) = some nA) (hna : As.length = nA) (hR : fr + 1 ≤ R.frames ∧ 8 + (maxL + 11) + lo ≤ R.locals) (hf : k + k1 ≤ R.cells ∧ n + n1 ≤ R.slots) (ho : o = some b) (hst : st = As.reverse ++ va_rf o :: rest) (hcat : (rest.map fun v => v.category).sum ≤ 8) (kk : Gk p l e R s m args below meth c d A Q nL σ1 (k + k1) (n + n1) (pc + 3) lv (r.toList ++ rest)) : Gk p l e R s m args below meth c d A Q nL σ k n pc lv st := by
  subst ho
  refine r_call E (a := (Value.ref b :: As).toArray) (fun H locs ls hH hS hP hl => ?_) kk
  exact va_runI (As := As) (rest := rest) ⟨E.x, E.b, E.ml, E.ow, E.ts⟩ hM (cwI nA E.ts (gdC w5 (ex := []) (fun w hw => by cases hw)) rfl rfl rfl (E.ts _ w4) (E.ts _ w1) (E.ts _ w2) hyn hy hR) ⟨PP.blind, fun U hU hW => PP.of E hH hS hP U hU hW⟩ rfl hna hl.1 hst (lv_room hcat) hd hf
theorem r_cN (E : Ev p s m args meth c own cc nL ret d A) {ix fr lo k1 n1 maxL nA : Nat} {y : MethodName} {ccy : ByteArray} {As rest : List Value} {r : Option Value} {σ1 : Sg} {b : Nat} {o : Option Nat} {host : String} (hM : Mt l d y ccy maxL none fr lo σ (.ref b :: As) r σ1 k1 n1) (hd : decode cc pc = .ok (.invokespecial ix, 3)) (w1 : va_Nw (.methodLinkNest own ix y host) s) (w2 : Cond.instanceMethod y ∈ wsL_law) (w4 : Cond.initialized y.cls ∈ wsL_law) (w5 : Cond.code y ccy maxL none ∈ wsL_law) (hyn : y.name = "<init>") (hy : y.cls ≠ "java/lang/invoke/MethodHandle" ∧ y.cls ≠ "java/lang/invoke/VarHandle" ∧ (parseMethodDescriptor y.desc).map (fun d => d.parameters.length) = some nA) (hna : As.length = nA) (hR : fr + 1 ≤ R.frames ∧ 8 + (maxL + 11) + lo ≤ R.locals) (hf : k + k1 ≤ R.cells ∧ n + n1 ≤ R.slots) (ho : o = some b) (hst : st = As.reverse ++ va_rf o :: rest) (hcat : (rest.map fun v => v.category).sum ≤ 8) (kk : Gk p l e R s m args below meth c d A Q nL σ1 (k + k1) (n + n1) (pc + 3) lv (r.toList ++ rest)) : Gk p l e R s m args below meth c d A Q nL σ k n pc lv st := by
  subst ho
  refine r_call E (a := (Value.ref b :: As).toArray) (fun H locs ls hH hS hP hl => ?_) kk
  exact va_runIN (As := As) (rest := rest) ⟨E.x, E.b, E.ml, E.ow, E.ts⟩ hM ⟨va_cnB nA E.ts (gdC w5 (ex := []) (fun w hw => by cases hw)) rfl rfl rfl w1 (E.ts _ w4) hy hR, hyn, E.ts _ w2⟩ ⟨PP.blind, fun U hU hW => PP.of E hH hS hP U hU hW⟩ rfl hna hl.1 hst (lv_room hcat) hd hf
end HP
section RT
variable {p : Program} {l : Launch} {e : Env} {R : Room} {s : State} {m : MethodId} {args : Array Value} {below : List Frame} {meth : Method} {c : Code} {d : Dp} {nL : Nat} {σ σ0 : Sg} {k n pc : Nat} {lv : List (Nat × Value)} {own : String} {cc : ByteArray}
theorem r_iret (E : Ev p s m args meth c own cc nL (some .int) d (AA σ0)) {v : Int32} (hd : decode cc pc = .ok (.ireturn, 1)) : Gk p l e R s m args below meth c d (AA σ0) (MQ below (QQ d σ0 (some (.int v)) σ) args s k n (AA σ0)) nL σ k n pc lv [.int v] := fun H locs ls hH hS hP hl => W.iret E.x E.b E.rt (fun t ht hW => ⟨rfl, by rw [ht]; exact hH, hP, hS.F ht⟩) hS.2.2 hd E.lk
theorem r_zret (E : Ev p s m args meth c own cc nL (some .boolean) d (AA σ0)) {v : Int32} (hd : decode cc pc = .ok (.ireturn, 1)) (hn : narrow .boolean (.int v) = .int v) : Gk p l e R s m args below meth c d (AA σ0) (MQ below (QQ d σ0 (some (.int v)) σ) args s k n (AA σ0)) nL σ k n pc lv [.int v] := fun H locs ls hH hS hP hl => W.zret E.x E.b E.rt hn (fun t ht hW => ⟨rfl, by rw [ht]; exact hH, hP, hS.F ht⟩) hS.2.2 hd E.lk
theorem r_lret (E : Ev p s m args meth c own cc nL (some .long) d (AA σ0)) {v : Int64} (hd : decode cc pc = .ok (.lreturn, 1)) : Gk p l e R s m args below meth c d (AA σ0) (MQ below (QQ d σ0 (some (.long v)) σ) args s k n (AA σ0)) nL σ k n pc lv [.long v] := fun H locs ls hH hS hP hl => W.lret E.x E.b E.rt (fun t ht hW => ⟨rfl, by rw [ht]; exact hH, hP, hS.F ht⟩) hS.2.2 hd E.lk
theorem r_vret (E : Ev p s m args meth c own cc nL (none) d (AA σ0)) (hd : decode cc pc = .ok (.return_, 1)) : Gk p l e R s m args below meth c d (AA σ0) (MQ below (QQ d σ0 (none) σ) args s k n (AA σ0)) nL σ k n pc lv [] := fun H locs ls hH hS hP hl => W.vret E.x E.b E.rt (fun t ht hW => ⟨rfl, by rw [ht]; exact hH, hP, hS.F ht⟩) hS.2.2 hd E.lk
theorem r_aret {rt : FieldType} (E : Ev p s m args meth c own cc nL (some rt) d (AA σ0)) {o : Option Nat} (hd : decode cc pc = .ok (.areturn, 1)) (hrt : (∃ n, rt = .object n) ∨ ∃ t, rt = .array t) : Gk p l e R s m args below meth c d (AA σ0) (MQ below (QQ d σ0 (some (va_rf o)) σ) args s k n (AA σ0)) nL σ k n pc lv [va_rf o] := fun H locs ls hH hS hP hl => W.aret E.x E.b E.rt hrt (va_rf_or o) (fun t ht hW => ⟨rfl, by rw [ht]; exact hH, hP, hS.F ht⟩) hS.2.2 hd E.lk
theorem mt_start {y : MethodName} {maxL fr lo : Nat} {ret : Option FieldType} {As : List Value} {r : Option Value} {σ' : Sg} {lv0 : List (Nat × Value)} (hy : plainName y.cls = true) (hyc : y.cls = own) (hlen : (lg_sl As).length ≤ maxL) (hlv : lv_args 0 As = lv0)
    (body : ∀ p e s m args below meth c, Ev p s m args meth c own cc maxL ret d (AA σ) → meth.name = y.name → Gk p l e { frames := fr, cells := k, slots := n, locals := lo } s m args below meth c d (AA σ) (MQ below (QQ d σ r σ') args s k n (AA σ)) maxL σ 0 0 0 lv0 []) : Mt l d y cc maxL ret fr lo σ As r σ' k n := by
  refine Met.ofW (cc := cc) (maxL := maxL) (ret := ret) hy rfl ?_
  intro p e s m args below meth c s₁ B hml hv
  obtain ⟨rfl, hH, hK, hZ⟩ := hv
  have hts := atoms_spec (ws := Cond.code y cc maxL ret :: wsL_law) B.pre
  rw [lg_entry_eq]
  subst hlv
  subst hyc
  exact body p e s m _ below meth c ⟨B.exec, B.bytes, hml, findClass_of_methodNamed B.named, fun w hw => hts w (List.mem_cons_of_mem _ hw), hK, fun q hq => Or.inr (by rw [← hH.1]; exact hq), B.returns, B.notSynchronized, hZ⟩ (name_of_methodNamed B.named B.method).1 s.heap [] _ hH va_S.rf (fun a h1 h2 => Or.inl ⟨h1, h2⟩) (lv_entry As hlen)
end RT
end
